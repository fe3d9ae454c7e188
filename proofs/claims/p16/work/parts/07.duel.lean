theorem inw_X1_prepare_X1 : ∀ w ∈ u_ws RX1 TX1 3, w ∈ wsX1_prepare := fun _ h => List.mem_cons_of_mem _ (List.mem_append_left _ (List.mem_append_right _ h))
def X1_prepare_w1 (F : Nat → Int32) (apart : Int32) (lm : Int32) : Nat → Int32 := (X2_prepare_w0 F lm (300 - (apart / 2)))
def X1_prepare_w2 (G : Nat → Int32) (apart : Int32) (rm : Int32) : Nat → Int32 := (X2_prepare_w0 G rm (300 + (apart / 2)))
set_option maxHeartbeats 4000000 in
set_option maxRecDepth 100000 in
theorem c_X1_prepare (l : Launch) (dC : Nat → ClassId) (dI : Nat → Nat → Nat) (cY : Nat → ClassId) (qd : Nat) (qm : Nat) (ql : Nat) (qr : Nat) (F : Nat → Int32) (G : Nat → Int32) (apart : Int32) (lm : Int32) (rm : Int32)  (sz : Nat) : Met l yX1_prepare wsX1_prepare ({ frames := 3, cells := 0, slots := 0, locals := 62 } : Room) (va_Pc [.ref qd, .int apart, .int lm, .int rm] (wPre (dC, dI) (tyL cY) [(qd, .inr (1, [.ref qm, .ref ql, .ref qr])), (ql, .inr (2, figL F)), (qr, .inr (2, figL G))] sz)) (va_Qv (fun _ : Unit => True) (wPost (dC, dI) [(qd, .inr (1, [.ref qm, .ref ql, .ref qr])), (ql, .inr (2, figL (X1_prepare_w1 F apart lm))), (qr, .inr (2, figL (X1_prepare_w2 G apart rm)))] (va_A [(qd, .inr (1, [.ref qm, .ref ql, .ref qr])), (ql, .inr (2, figL F)), (qr, .inr (2, figL G))] sz)) (va_A [(qd, .inr (1, [.ref qm, .ref ql, .ref qr])), (ql, .inr (2, figL F)), (qr, .inr (2, figL G))] sz)) 0 0 (va_A [(qd, .inr (1, [.ref qm, .ref ql, .ref qr])), (ql, .inr (2, figL F)), (qr, .inr (2, figL G))] sz) := by
  refine Met.ofW (cc := cX1_prepare) (maxL := 4) (ret := none) (by decide) rfl ?_
  intro p e s m args below meth c s₁ B hml hv
  obtain ⟨rfl, hsz, hP, hK, hN, hD0⟩ := hv
  have hx := B.exec
  have hb := B.bytes
  have hr := B.returns
  have hts := atoms_spec (ws := wsX1_prepare) B.pre
  have hown : s.vm.findClass RX1 = some m.cls := findClass_of_methodNamed B.named
  have hlocks := B.notSynchronized
  subst hsz
  have hD := hD0.self (sz := s.heap.size)
  generalize hAe : va_A [(qd, .inr (1, [.ref qm, .ref ql, .ref qr])), (ql, .inr (2, figL F)), (qr, .inr (2, figL G))] s.heap.size = A at hD ⊢
  have hA : ∀ q : Nat, s.heap.size ≤ q → A q := fun q h => by rw [← hAe]; exact Or.inr h
  have hS : va_S A s.heap s.heap [] := va_S.rf
  have hP : va_P (dC, dI) vwCl [(qd, .inr (1, [.ref qm, .ref ql, .ref qr])), (ql, .inr (2, figL F)), (qr, .inr (2, figL G))] s.heap := hP
  have hl := lv_entry ([.ref qd, .int apart, .int lm, .int rm]) (n := 4) (Nat.le_of_ble_eq_true rfl)
  rw [lg_entry_eq]
  generalize (lg_sl ([.ref qd, .int apart, .int lm, .int rm]) ++ List.replicate (4 - (lg_sl ([.ref qd, .int apart, .int lm, .int rm])).length) Slot.unset).toArray = ls at hl ⊢
  have hl : lv_has ls 4 [(0, .ref qd), (1, .int apart), (2, .int lm), (3, .int rm)] := hl
  refine lv_aload_n hx hb dX1_prepare_0 rfl (lv_at hl 0 rfl) ?_
  refine va_get (D := (dC, dI)) (ci := 1) (v := .ref ql) (C := RX1) (T := TX1) (N := 3) hx hb hts inw_X1_prepare_X1 hown hK hP 0 rfl rfl 1 (by decide) (hts (.fieldLink RX1 14 "DuelFrames$Duel" "left" "LDuelFrames$Figure;") (List.mem_of_getElem? (i := 1) rfl)) (fun _ h9 => h9) rfl dX1_prepare_1 ?_
  refine lv_sipush (v := 300) hx hb dX1_prepare_4 (by decide) ?_
  refine lv_iload_n hx hb dX1_prepare_7 rfl (lv_at hl 1 rfl) ?_
  refine lv_iconst (v := 2) hx hb dX1_prepare_8 (by decide) ?_
  refine lv_idiv hx hb dX1_prepare_9 (by decide) ?_
  refine lv_isub hx hb dX1_prepare_10 ?_
  refine lv_iload_n hx hb dX1_prepare_11 rfl (lv_at hl 2 rfl) ?_
  have hPc := hP.sub (ws' := [(ql, .inr (2, figL F))]) [1] rfl
  have hDc := hD.sub (ws' := [(ql, .inr (2, figL F))]) [1] (by decide) rfl
  have hFc := va_free (wc := [(ql, .inr (2, figL F))]) hD hS hA [1] rfl
  refine va_callv (va_runV (As := [.int (300 - (apart / 2)), .int lm]) (rest := []) ⟨hx, hb, hml, hown, hts⟩ (c_X2_prepare l dC dI cY ql F (300 - (apart / 2)) lm s.heap.size) (cwV 2 hts gX1_prepare_X2_prepare rfl rfl rfl (by decide +kernel) ⟨Nat.le_of_ble_eq_true rfl, Nat.le_of_ble_eq_true rfl⟩) ⟨blindW, va_recv hK hPc (ci := 2) (q0 := 0) rfl rfl, fun U hU hW => ⟨rfl, wPre_of hPc hK hN hDc U hU hW⟩⟩ rfl rfl hl.1 rfl (lv_room (Nat.le_of_ble_eq_true rfl)) dX1_prepare_12 ⟨Nat.zero_le _, Nat.zero_le _⟩) hS (fun q _ h => hFc q h) hFc (fun u t H1 locs ht hvm hw hB hz1 hk1 hS1 => ?_)
  have hJ := wJoin (wr := [(qd, .inr (1, [.ref qm, .ref ql, .ref qr])), (qr, .inr (2, figL G))]) (w1 := [(ql, .inr (2, figL (X2_prepare_w0 F lm (300 - (apart / 2)))))]) (wn := [(qd, .inr (1, [.ref qm, .ref ql, .ref qr])), (ql, .inr (2, figL (X2_prepare_w0 F lm (300 - (apart / 2))))), (qr, .inr (2, figL G))]) hP hD [1] [0, 2] rfl rfl (by decide) (by decide) hk1 hFc hB ht [0, 2, 1] rfl (by decide)
  clear hB hk1 hFc hPc hDc hP hD hS hz1 hvm ht t
  obtain ⟨hP1, hD1⟩ := hJ
  generalize H1 = H at hP1 hS1 ⊢
  have hP : va_P (dC, dI) vwCl [(qd, .inr (1, [.ref qm, .ref ql, .ref qr])), (ql, .inr (2, figL (X2_prepare_w0 F lm (300 - (apart / 2))))), (qr, .inr (2, figL G))] H := hP1
  have hD : va_D A [(qd, .inr (1, [.ref qm, .ref ql, .ref qr])), (ql, .inr (2, figL (X2_prepare_w0 F lm (300 - (apart / 2))))), (qr, .inr (2, figL G))] := hD1
  have hS := hS1
  clear hP1 hD1 hS1
  obtain ⟨z_2, ez_2⟩ : ∃ z, z = (X2_prepare_w0 F lm (300 - (apart / 2))) := ⟨_, rfl⟩
  rw [← ez_2] at hP hD
  refine lv_aload_n hx hb dX1_prepare_15 rfl (lv_at hl 0 rfl) ?_
  refine va_get (D := (dC, dI)) (ci := 1) (v := .ref qr) (C := RX1) (T := TX1) (N := 3) hx hb hts inw_X1_prepare_X1 hown hK hP 0 rfl rfl 2 (by decide) (hts (.fieldLink RX1 20 "DuelFrames$Duel" "right" "LDuelFrames$Figure;") (List.mem_of_getElem? (i := 2) rfl)) (fun _ h9 => h9) rfl dX1_prepare_16 ?_
  refine lv_sipush (v := 300) hx hb dX1_prepare_19 (by decide) ?_
  refine lv_iload_n hx hb dX1_prepare_22 rfl (lv_at hl 1 rfl) ?_
  refine lv_iconst (v := 2) hx hb dX1_prepare_23 (by decide) ?_
  refine lv_idiv hx hb dX1_prepare_24 (by decide) ?_
  refine lv_iadd hx hb dX1_prepare_25 ?_
  refine lv_iload_n hx hb dX1_prepare_26 rfl (lv_at hl 3 rfl) ?_
  have hPc := hP.sub (ws' := [(qr, .inr (2, figL G))]) [2] rfl
  have hDc := hD.sub (ws' := [(qr, .inr (2, figL G))]) [2] (by decide) rfl
  have hFc := va_free (wc := [(qr, .inr (2, figL G))]) hD hS hA [2] rfl
  refine va_callv (va_runV (As := [.int (300 + (apart / 2)), .int rm]) (rest := []) ⟨hx, hb, hml, hown, hts⟩ (c_X2_prepare l dC dI cY qr G (300 + (apart / 2)) rm H.size) (cwV 2 hts gX1_prepare_X2_prepare rfl rfl rfl (by decide +kernel) ⟨Nat.le_of_ble_eq_true rfl, Nat.le_of_ble_eq_true rfl⟩) ⟨blindW, va_recv hK hPc (ci := 2) (q0 := 0) rfl rfl, fun U hU hW => ⟨rfl, wPre_of hPc hK hN hDc U hU hW⟩⟩ rfl rfl hl.1 rfl (lv_room (Nat.le_of_ble_eq_true rfl)) dX1_prepare_27 ⟨Nat.zero_le _, Nat.zero_le _⟩) hS (fun q _ h => hFc q h) hFc (fun u t H1 locs ht hvm hw hB hz1 hk1 hS1 => ?_)
  have hJ := wJoin (wr := [(qd, .inr (1, [.ref qm, .ref ql, .ref qr])), (ql, .inr (2, figL z_2))]) (w1 := [(qr, .inr (2, figL (X2_prepare_w0 G rm (300 + (apart / 2)))))]) (wn := [(qd, .inr (1, [.ref qm, .ref ql, .ref qr])), (ql, .inr (2, figL z_2)), (qr, .inr (2, figL (X2_prepare_w0 G rm (300 + (apart / 2)))))]) hP hD [2] [0, 1] rfl rfl (by decide) (by decide) hk1 hFc hB ht [0, 1, 2] rfl (by decide)
  clear hB hk1 hFc hPc hDc hP hD hS hz1 hvm ht t
  obtain ⟨hP1, hD1⟩ := hJ
  generalize H1 = H at hP1 hS1 ⊢
  have hP : va_P (dC, dI) vwCl [(qd, .inr (1, [.ref qm, .ref ql, .ref qr])), (ql, .inr (2, figL z_2)), (qr, .inr (2, figL (X2_prepare_w0 G rm (300 + (apart / 2)))))] H := hP1
  have hD : va_D A [(qd, .inr (1, [.ref qm, .ref ql, .ref qr])), (ql, .inr (2, figL z_2)), (qr, .inr (2, figL (X2_prepare_w0 G rm (300 + (apart / 2)))))] := hD1
  have hS := hS1
  clear hP1 hD1 hS1
  obtain ⟨z_4, ez_4⟩ : ∃ z, z = (X2_prepare_w0 G rm (300 + (apart / 2))) := ⟨_, rfl⟩
  rw [← ez_4] at hP hD
  have eo_5 : (X1_prepare_w1 F apart lm) = z_2 := by rw [X1_prepare_w1]; (try simp only [← ez_2, ← ez_4])
  have eo_6 : (X1_prepare_w2 G apart rm) = z_4 := by rw [X1_prepare_w2]; (try simp only [← ez_2, ← ez_4])
  have hP9 : va_P (dC, dI) vwCl [(qd, .inr (1, [.ref qm, .ref ql, .ref qr])), (ql, .inr (2, figL (X1_prepare_w1 F apart lm))), (qr, .inr (2, figL (X1_prepare_w2 G apart rm)))] H := by simp only [eo_5, eo_6]; exact hP
  have hD9 : va_D A [(qd, .inr (1, [.ref qm, .ref ql, .ref qr])), (ql, .inr (2, figL (X1_prepare_w1 F apart lm))), (qr, .inr (2, figL (X1_prepare_w2 G apart rm)))] := by simp only [eo_5, eo_6]; exact hD
  exact W.vret hx hb hr (fun t ht hW => ⟨⟨(), rfl, trivial, wPost_of hP9 hD9 ht⟩, hS.F ht⟩) hS.2.2 dX1_prepare_30
theorem inw_X1_apart_X1 : ∀ w ∈ u_ws RX1 TX1 3, w ∈ wsX1_apart := fun _ h => List.mem_cons_of_mem _ (List.mem_append_left _ (List.mem_append_right _ h))
theorem inw_X1_apart_X2 : ∀ w ∈ u_ws RX2 TX2 16, w ∈ wsX1_apart := fun _ h => List.mem_cons_of_mem _ (List.mem_append_right _ h)
def X1_apart_r (F : Nat → Int32) (G : Nat → Int32) : Int32 := ((G 0) - (F 0))
set_option maxHeartbeats 4000000 in
set_option maxRecDepth 100000 in
theorem c_X1_apart (l : Launch) (dC : Nat → ClassId) (dI : Nat → Nat → Nat) (cY : Nat → ClassId) (qd : Nat) (qm : Nat) (ql : Nat) (qr : Nat) (F : Nat → Int32) (G : Nat → Int32)  : Met l yX1_apart wsX1_apart ({ frames := 0, cells := 0, slots := 0, locals := 0 } : Room) (va_Pc [.ref qd] (rPre (dC, dI) (tyL cY) [(qd, .inr (1, [.ref qm, .ref ql, .ref qr])), (ql, .inr (2, figL F)), (qr, .inr (2, figL G))])) (vp_Si (fun r => r = (X1_apart_r F G))) 0 0 (fun _ => False) := by
  refine Met.ofW (cc := cX1_apart) (maxL := 1) (ret := (some .int)) (by decide) rfl ?_
  intro p e s m args below meth c s₁ B hml hv
  obtain ⟨rfl, hP, hK, hN⟩ := hv
  have hx := B.exec
  have hb := B.bytes
  have hr := B.returns
  have hts := atoms_spec (ws := wsX1_apart) B.pre
  have hown : s.vm.findClass RX1 = some m.cls := findClass_of_methodNamed B.named
  have hlocks := B.notSynchronized
  have hP : va_P (dC, dI) vwCl [(qd, .inr (1, [.ref qm, .ref ql, .ref qr])), (ql, .inr (2, figL F)), (qr, .inr (2, figL G))] s.heap := hP
  have hl := lv_entry ([.ref qd]) (n := 1) (Nat.le_of_ble_eq_true rfl)
  rw [lg_entry_eq]
  generalize (lg_sl ([.ref qd]) ++ List.replicate (1 - (lg_sl ([.ref qd])).length) Slot.unset).toArray = ls at hl ⊢
  have hl : lv_has ls 1 [(0, .ref qd)] := hl
  refine lv_aload_n hx hb dX1_apart_0 rfl (lv_at hl 0 rfl) ?_
  refine va_get (D := (dC, dI)) (ci := 1) (v := .ref qr) (C := RX1) (T := TX1) (N := 3) hx hb hts inw_X1_apart_X1 hown hK hP 0 rfl rfl 2 (by decide) (hts (.fieldLink RX1 20 "DuelFrames$Duel" "right" "LDuelFrames$Figure;") (List.mem_of_getElem? (i := 1) rfl)) (fun _ h9 => h9) rfl dX1_apart_1 ?_
  refine va_get (D := (dC, dI)) (ci := 2) (v := .int (G 0)) (C := RX2) (T := TX2) (N := 16) hx hb hts inw_X1_apart_X2 hown hK hP 2 rfl rfl 0 (by decide) (hts (.fieldLink RX1 52 "DuelFrames$Figure" "place" "I") (List.mem_of_getElem? (i := 2) rfl)) (fun _ h9 => h9) rfl dX1_apart_4 ?_
  refine lv_aload_n hx hb dX1_apart_7 rfl (lv_at hl 0 rfl) ?_
  refine va_get (D := (dC, dI)) (ci := 1) (v := .ref ql) (C := RX1) (T := TX1) (N := 3) hx hb hts inw_X1_apart_X1 hown hK hP 0 rfl rfl 1 (by decide) (hts (.fieldLink RX1 14 "DuelFrames$Duel" "left" "LDuelFrames$Figure;") (List.mem_of_getElem? (i := 3) rfl)) (fun _ h9 => h9) rfl dX1_apart_8 ?_
  refine va_get (D := (dC, dI)) (ci := 2) (v := .int (F 0)) (C := RX2) (T := TX2) (N := 16) hx hb hts inw_X1_apart_X2 hown hK hP 1 rfl rfl 0 (by decide) (hts (.fieldLink RX1 52 "DuelFrames$Figure" "place" "I") (List.mem_of_getElem? (i := 2) rfl)) (fun _ h9 => h9) rfl dX1_apart_11 ?_
  refine lv_isub hx hb dX1_apart_14 ?_
  have eo_1 : (X1_apart_r F G) = ((G 0) - (F 0)) := by rw [X1_apart_r]
  exact W.iret (v := ((G 0) - (F 0))) hx hb hr (fun t ht _ => ⟨_, rfl, eo_1.symm, ht⟩) (fun _ h => absurd h List.not_mem_nil) dX1_apart_15
theorem inw_X1_walk_X1 : ∀ w ∈ u_ws RX1 TX1 3, w ∈ wsX1_walk := fun _ h => List.mem_cons_of_mem _ (List.mem_append_left _ (List.mem_append_right _ h))
theorem inw_X1_walk_X2 : ∀ w ∈ u_ws RX2 TX2 16, w ∈ wsX1_walk := fun _ h => List.mem_cons_of_mem _ (List.mem_append_right _ h)
def X1_walk_j58 (F : Nat → Int32) (G : Nat → Int32) : Nat → Int32 := (if (20 - (X1_apart_r (X2_walk_w0 F) (X2_walk_w0 G))) ≤ 0 then (X2_walk_w0 F) else (upd (X2_walk_w0 F) 0 (((X2_walk_w0 F) 0) - ((20 - (X1_apart_r (X2_walk_w0 F) (X2_walk_w0 G))) / 2))))
def X1_walk_j58_1 (F : Nat → Int32) (G : Nat → Int32) : Nat → Int32 := (if (20 - (X1_apart_r (X2_walk_w0 F) (X2_walk_w0 G))) ≤ 0 then (X2_walk_w0 G) else (upd (X2_walk_w0 G) 0 (((X2_walk_w0 G) 0) + ((20 - (X1_apart_r (X2_walk_w0 F) (X2_walk_w0 G))) - ((20 - (X1_apart_r (X2_walk_w0 F) (X2_walk_w0 G))) / 2)))))
def X1_walk_j95 (F : Nat → Int32) (G : Nat → Int32) : Nat → Int32 := (if 0 ≤ ((X1_walk_j58 F G) 0) then (X1_walk_j58 F G) else (upd (X1_walk_j58 F G) 0 0))
def X1_walk_j95_1 (F : Nat → Int32) (G : Nat → Int32) : Nat → Int32 := (if 0 ≤ ((X1_walk_j58 F G) 0) then (X1_walk_j58_1 F G) else (upd (X1_walk_j58_1 F G) 0 (if ((X1_walk_j58_1 F G) 0) < 20 then 20 else ((X1_walk_j58_1 F G) 0))))
def X1_walk_w1 (F : Nat → Int32) (G : Nat → Int32) : Nat → Int32 := (if ((X1_walk_j95_1 F G) 0) ≤ 600 then (X1_walk_j95 F G) else (upd (X1_walk_j95 F G) 0 (if 580 < ((X1_walk_j95 F G) 0) then 580 else ((X1_walk_j95 F G) 0))))
def X1_walk_w2 (F : Nat → Int32) (G : Nat → Int32) : Nat → Int32 := (if ((X1_walk_j95_1 F G) 0) ≤ 600 then (X1_walk_j95_1 F G) else (upd (X1_walk_j95_1 F G) 0 600))
set_option maxHeartbeats 4000000 in
set_option maxRecDepth 100000 in
theorem c_X1_walk (l : Launch) (dC : Nat → ClassId) (dI : Nat → Nat → Nat) (cY : Nat → ClassId) (qd : Nat) (qm : Nat) (ql : Nat) (qr : Nat) (F : Nat → Int32) (G : Nat → Int32)  (sz : Nat) : Met l yX1_walk wsX1_walk ({ frames := 1, cells := 0, slots := 0, locals := 21 } : Room) (va_Pc [.ref qd] (wPre (dC, dI) (tyL cY) [(qd, .inr (1, [.ref qm, .ref ql, .ref qr])), (ql, .inr (2, figL F)), (qr, .inr (2, figL G))] sz)) (va_Qv (fun _ : Unit => True) (wPost (dC, dI) [(qd, .inr (1, [.ref qm, .ref ql, .ref qr])), (ql, .inr (2, figL (X1_walk_w1 F G))), (qr, .inr (2, figL (X1_walk_w2 F G)))] (va_A [(qd, .inr (1, [.ref qm, .ref ql, .ref qr])), (ql, .inr (2, figL F)), (qr, .inr (2, figL G))] sz)) (va_A [(qd, .inr (1, [.ref qm, .ref ql, .ref qr])), (ql, .inr (2, figL F)), (qr, .inr (2, figL G))] sz)) 0 0 (va_A [(qd, .inr (1, [.ref qm, .ref ql, .ref qr])), (ql, .inr (2, figL F)), (qr, .inr (2, figL G))] sz) := by
  refine Met.ofW (cc := cX1_walk) (maxL := 2) (ret := none) (by decide) rfl ?_
  intro p e s m args below meth c s₁ B hml hv
  obtain ⟨rfl, hsz, hP, hK, hN, hD0⟩ := hv
  have hx := B.exec
  have hb := B.bytes
  have hr := B.returns
  have hts := atoms_spec (ws := wsX1_walk) B.pre
  have hown : s.vm.findClass RX1 = some m.cls := findClass_of_methodNamed B.named
  have hlocks := B.notSynchronized
  subst hsz
  have hD := hD0.self (sz := s.heap.size)
  generalize hAe : va_A [(qd, .inr (1, [.ref qm, .ref ql, .ref qr])), (ql, .inr (2, figL F)), (qr, .inr (2, figL G))] s.heap.size = A at hD ⊢
  have hA : ∀ q : Nat, s.heap.size ≤ q → A q := fun q h => by rw [← hAe]; exact Or.inr h
  have hS : va_S A s.heap s.heap [] := va_S.rf
  have hP : va_P (dC, dI) vwCl [(qd, .inr (1, [.ref qm, .ref ql, .ref qr])), (ql, .inr (2, figL F)), (qr, .inr (2, figL G))] s.heap := hP
  have hl := lv_entry ([.ref qd]) (n := 2) (Nat.le_of_ble_eq_true rfl)
  rw [lg_entry_eq]
  generalize (lg_sl ([.ref qd]) ++ List.replicate (2 - (lg_sl ([.ref qd])).length) Slot.unset).toArray = ls at hl ⊢
  have hl : lv_has ls 2 [(0, .ref qd)] := hl
  refine lv_aload_n hx hb dX1_walk_0 rfl (lv_at hl 0 rfl) ?_
  refine va_get (D := (dC, dI)) (ci := 1) (v := .ref ql) (C := RX1) (T := TX1) (N := 3) hx hb hts inw_X1_walk_X1 hown hK hP 0 rfl rfl 1 (by decide) (hts (.fieldLink RX1 14 "DuelFrames$Duel" "left" "LDuelFrames$Figure;") (List.mem_of_getElem? (i := 1) rfl)) (fun _ h9 => h9) rfl dX1_walk_1 ?_
  have hPc := hP.sub (ws' := [(ql, .inr (2, figL F))]) [1] rfl
  have hDc := hD.sub (ws' := [(ql, .inr (2, figL F))]) [1] (by decide) rfl
  have hFc := va_free (wc := [(ql, .inr (2, figL F))]) hD hS hA [1] rfl
  refine va_callv (va_runV (As := []) (rest := []) ⟨hx, hb, hml, hown, hts⟩ (c_X2_walk l dC dI cY ql F s.heap.size) (cwV 0 hts gX1_walk_X2_walk rfl rfl rfl (by decide +kernel) ⟨Nat.le_of_ble_eq_true rfl, Nat.le_of_ble_eq_true rfl⟩) ⟨blindW, va_recv hK hPc (ci := 2) (q0 := 0) rfl rfl, fun U hU hW => ⟨rfl, wPre_of hPc hK hN hDc U hU hW⟩⟩ rfl rfl hl.1 rfl (lv_room (Nat.le_of_ble_eq_true rfl)) dX1_walk_4 ⟨Nat.zero_le _, Nat.zero_le _⟩) hS (fun q _ h => hFc q h) hFc (fun u t H1 locs ht hvm hw hB hz1 hk1 hS1 => ?_)
  have hJ := wJoin (wr := [(qd, .inr (1, [.ref qm, .ref ql, .ref qr])), (qr, .inr (2, figL G))]) (w1 := [(ql, .inr (2, figL (X2_walk_w0 F)))]) (wn := [(qd, .inr (1, [.ref qm, .ref ql, .ref qr])), (ql, .inr (2, figL (X2_walk_w0 F))), (qr, .inr (2, figL G))]) hP hD [1] [0, 2] rfl rfl (by decide) (by decide) hk1 hFc hB ht [0, 2, 1] rfl (by decide)
  clear hB hk1 hFc hPc hDc hP hD hS hz1 hvm ht t
  obtain ⟨hP1, hD1⟩ := hJ
  generalize H1 = H at hP1 hS1 ⊢
  have hP : va_P (dC, dI) vwCl [(qd, .inr (1, [.ref qm, .ref ql, .ref qr])), (ql, .inr (2, figL (X2_walk_w0 F))), (qr, .inr (2, figL G))] H := hP1
  have hD : va_D A [(qd, .inr (1, [.ref qm, .ref ql, .ref qr])), (ql, .inr (2, figL (X2_walk_w0 F))), (qr, .inr (2, figL G))] := hD1
  have hS := hS1
  clear hP1 hD1 hS1
  obtain ⟨z_2, ez_2⟩ : ∃ z, z = (X2_walk_w0 F) := ⟨_, rfl⟩
  rw [← ez_2] at hP hD
  refine lv_aload_n hx hb dX1_walk_7 rfl (lv_at hl 0 rfl) ?_
  refine va_get (D := (dC, dI)) (ci := 1) (v := .ref qr) (C := RX1) (T := TX1) (N := 3) hx hb hts inw_X1_walk_X1 hown hK hP 0 rfl rfl 2 (by decide) (hts (.fieldLink RX1 20 "DuelFrames$Duel" "right" "LDuelFrames$Figure;") (List.mem_of_getElem? (i := 2) rfl)) (fun _ h9 => h9) rfl dX1_walk_8 ?_
  have hPc := hP.sub (ws' := [(qr, .inr (2, figL G))]) [2] rfl
  have hDc := hD.sub (ws' := [(qr, .inr (2, figL G))]) [2] (by decide) rfl
  have hFc := va_free (wc := [(qr, .inr (2, figL G))]) hD hS hA [2] rfl
  refine va_callv (va_runV (As := []) (rest := []) ⟨hx, hb, hml, hown, hts⟩ (c_X2_walk l dC dI cY qr G H.size) (cwV 0 hts gX1_walk_X2_walk rfl rfl rfl (by decide +kernel) ⟨Nat.le_of_ble_eq_true rfl, Nat.le_of_ble_eq_true rfl⟩) ⟨blindW, va_recv hK hPc (ci := 2) (q0 := 0) rfl rfl, fun U hU hW => ⟨rfl, wPre_of hPc hK hN hDc U hU hW⟩⟩ rfl rfl hl.1 rfl (lv_room (Nat.le_of_ble_eq_true rfl)) dX1_walk_11 ⟨Nat.zero_le _, Nat.zero_le _⟩) hS (fun q _ h => hFc q h) hFc (fun u t H1 locs ht hvm hw hB hz1 hk1 hS1 => ?_)
  have hJ := wJoin (wr := [(qd, .inr (1, [.ref qm, .ref ql, .ref qr])), (ql, .inr (2, figL z_2))]) (w1 := [(qr, .inr (2, figL (X2_walk_w0 G)))]) (wn := [(qd, .inr (1, [.ref qm, .ref ql, .ref qr])), (ql, .inr (2, figL z_2)), (qr, .inr (2, figL (X2_walk_w0 G)))]) hP hD [2] [0, 1] rfl rfl (by decide) (by decide) hk1 hFc hB ht [0, 1, 2] rfl (by decide)
  clear hB hk1 hFc hPc hDc hP hD hS hz1 hvm ht t
  obtain ⟨hP1, hD1⟩ := hJ
  generalize H1 = H at hP1 hS1 ⊢
  have hP : va_P (dC, dI) vwCl [(qd, .inr (1, [.ref qm, .ref ql, .ref qr])), (ql, .inr (2, figL z_2)), (qr, .inr (2, figL (X2_walk_w0 G)))] H := hP1
  have hD : va_D A [(qd, .inr (1, [.ref qm, .ref ql, .ref qr])), (ql, .inr (2, figL z_2)), (qr, .inr (2, figL (X2_walk_w0 G)))] := hD1
  have hS := hS1
  clear hP1 hD1 hS1
  obtain ⟨z_4, ez_4⟩ : ∃ z, z = (X2_walk_w0 G) := ⟨_, rfl⟩
  rw [← ez_4] at hP hD
  refine lv_bipush (v := 20) hx hb dX1_walk_14 (by decide) ?_
  refine lv_aload_n hx hb dX1_walk_16 rfl (lv_at hl 0 rfl) ?_
  refine vp_callSi (W.runV (As := []) (rest := [.int 20]) ⟨hx, hb, hml, hown, hts⟩ (c_X1_apart l dC dI cY qd qm ql qr z_2 z_4) (cwV 0 hts gX1_walk_X1_apart rfl rfl rfl (by decide +kernel) ⟨Nat.le_of_ble_eq_true rfl, Nat.le_of_ble_eq_true rfl⟩) ⟨blindR, va_recv hK hP (ci := 1) (q0 := 0) rfl rfl, fun U hU hW => ⟨rfl, rPre_of hP hK hN U hU hW⟩⟩ rfl rfl hl.1 rfl (lv_room (Nat.le_of_ble_eq_true rfl)) dX1_walk_17 ⟨Nat.zero_le _, Nat.zero_le _⟩) (fun r_5 hw => ?_)
  subst hw
  refine lv_isub hx hb dX1_walk_20 ?_
  refine lv_istore_n (lv' := [(1, .int (20 - (X1_apart_r z_2 z_4))), (0, .ref qd)]) hx hb dX1_walk_21 rfl hl (by decide) rfl (fun ls hl => ?_)
  refine lv_iload_n hx hb dX1_walk_22 rfl (lv_at hl 0 rfl) ?_
  refine jnW (D := (dC, dI)) (ws := [(qd, .inr (1, [.ref qm, .ref ql, .ref qr])), (ql, .inr (2, figL (X1_walk_j58 F G))), (qr, .inr (2, figL (X1_walk_j58_1 F G)))]) (lv := [(0, .ref qd)]) (st := []) (J := 58) (n := 2) (A := A) (H0 := s.heap) ?_ ?_
  · intro H locs ls hP hD hS hl
    obtain ⟨z_8, ez_8⟩ : ∃ z, z = (X1_walk_j58 F G) := ⟨_, rfl⟩
    rw [← ez_8] at hP hD
    obtain ⟨z_9, ez_9⟩ : ∃ z, z = (X1_walk_j58_1 F G) := ⟨_, rfl⟩
    rw [← ez_9] at hP hD
    refine lv_aload_n hx hb dX1_walk_58 rfl (lv_at hl 0 rfl) ?_
    refine va_get (D := (dC, dI)) (ci := 1) (v := .ref ql) (C := RX1) (T := TX1) (N := 3) hx hb hts inw_X1_walk_X1 hown hK hP 0 rfl rfl 1 (by decide) (hts (.fieldLink RX1 14 "DuelFrames$Duel" "left" "LDuelFrames$Figure;") (List.mem_of_getElem? (i := 1) rfl)) (fun _ h9 => h9) rfl dX1_walk_59 ?_
    refine va_get (D := (dC, dI)) (ci := 2) (v := .int (z_8 0)) (C := RX2) (T := TX2) (N := 16) hx hb hts inw_X1_walk_X2 hown hK hP 1 rfl rfl 0 (by decide) (hts (.fieldLink RX1 52 "DuelFrames$Figure" "place" "I") (List.mem_of_getElem? (i := 3) rfl)) (fun _ h9 => h9) rfl dX1_walk_62 ?_
    refine jnW (D := (dC, dI)) (ws := [(qd, .inr (1, [.ref qm, .ref ql, .ref qr])), (ql, .inr (2, figL (X1_walk_j95 F G))), (qr, .inr (2, figL (X1_walk_j95_1 F G)))]) (lv := [(0, .ref qd)]) (st := []) (J := 95) (n := 2) (A := A) (H0 := s.heap) ?_ ?_
    · intro H locs ls hP hD hS hl
      obtain ⟨z_12, ez_12⟩ : ∃ z, z = (X1_walk_j95 F G) := ⟨_, rfl⟩
      rw [← ez_12] at hP hD
      obtain ⟨z_13, ez_13⟩ : ∃ z, z = (X1_walk_j95_1 F G) := ⟨_, rfl⟩
      rw [← ez_13] at hP hD
      refine lv_aload_n hx hb dX1_walk_95 rfl (lv_at hl 0 rfl) ?_
      refine va_get (D := (dC, dI)) (ci := 1) (v := .ref qr) (C := RX1) (T := TX1) (N := 3) hx hb hts inw_X1_walk_X1 hown hK hP 0 rfl rfl 2 (by decide) (hts (.fieldLink RX1 20 "DuelFrames$Duel" "right" "LDuelFrames$Figure;") (List.mem_of_getElem? (i := 2) rfl)) (fun _ h9 => h9) rfl dX1_walk_96 ?_
      refine va_get (D := (dC, dI)) (ci := 2) (v := .int (z_13 0)) (C := RX2) (T := TX2) (N := 16) hx hb hts inw_X1_walk_X2 hown hK hP 2 rfl rfl 0 (by decide) (hts (.fieldLink RX1 52 "DuelFrames$Figure" "place" "I") (List.mem_of_getElem? (i := 3) rfl)) (fun _ h9 => h9) rfl dX1_walk_99 ?_
      refine lv_sipush (v := 600) hx hb dX1_walk_102 (by decide) ?_
      refine lv_icmp_le (tgt := 138) hx hb dX1_walk_105 (by decide) (fun c_14 => ?_) (fun c_14 => ?_)
      · have eo_15 : (X1_walk_w1 F G) = z_12 := by rw [X1_walk_w1]; simp only [← ez_2, ← ez_4, ← ez_8, ← ez_9, ← ez_12, ← ez_13, eq_true c_14, ↓reduceIte]
        have eo_16 : (X1_walk_w2 F G) = z_13 := by rw [X1_walk_w2]; simp only [← ez_2, ← ez_4, ← ez_8, ← ez_9, ← ez_12, ← ez_13, eq_true c_14, ↓reduceIte]
        have hP9 : va_P (dC, dI) vwCl [(qd, .inr (1, [.ref qm, .ref ql, .ref qr])), (ql, .inr (2, figL (X1_walk_w1 F G))), (qr, .inr (2, figL (X1_walk_w2 F G)))] H := by simp only [eo_15, eo_16]; exact hP
        have hD9 : va_D A [(qd, .inr (1, [.ref qm, .ref ql, .ref qr])), (ql, .inr (2, figL (X1_walk_w1 F G))), (qr, .inr (2, figL (X1_walk_w2 F G)))] := by simp only [eo_15, eo_16]; exact hD
        exact W.vret hx hb hr (fun t ht hW => ⟨⟨(), rfl, trivial, wPost_of hP9 hD9 ht⟩, hS.F ht⟩) hS.2.2 dX1_walk_138
      · refine lv_aload_n hx hb dX1_walk_108 rfl (lv_at hl 0 rfl) ?_
        refine va_get (D := (dC, dI)) (ci := 1) (v := .ref qr) (C := RX1) (T := TX1) (N := 3) hx hb hts inw_X1_walk_X1 hown hK hP 0 rfl rfl 2 (by decide) (hts (.fieldLink RX1 20 "DuelFrames$Duel" "right" "LDuelFrames$Figure;") (List.mem_of_getElem? (i := 2) rfl)) (fun _ h9 => h9) rfl dX1_walk_109 ?_
        refine lv_sipush (v := 600) hx hb dX1_walk_112 (by decide) ?_
        refine va_put (D := (dC, dI)) (ci := 2) (v := .int 600) (ty := .int) (C := RX2) (T := TX2) (N := 16) hx hb hts inw_X1_walk_X2 tyX2 tyX2_ok nmX2 hown hK hP hD hS 2 rfl rfl 0 (by decide) (hts (.fieldLink RX1 52 "DuelFrames$Figure" "place" "I") (List.mem_of_getElem? (i := 3) rfl)) (fun _ h9 => h9) rfl (by decide +kernel) rfl rfl (Nat.le_of_ble_eq_true rfl) dX1_walk_115 (fun H locs hP1 hD1 hS1 => ?_)
        clear hP hD hS
        have hP : va_P (dC, dI) vwCl [(qd, .inr (1, [.ref qm, .ref ql, .ref qr])), (ql, .inr (2, figL z_12)), (qr, .inr (2, figL (upd z_13 0 600)))] H := hP1
        have hD : va_D A [(qd, .inr (1, [.ref qm, .ref ql, .ref qr])), (ql, .inr (2, figL z_12)), (qr, .inr (2, figL (upd z_13 0 600)))] := hD1
        have hS := hS1
        clear hP1 hD1 hS1
        refine lv_aload_n hx hb dX1_walk_118 rfl (lv_at hl 0 rfl) ?_
        refine va_get (D := (dC, dI)) (ci := 1) (v := .ref ql) (C := RX1) (T := TX1) (N := 3) hx hb hts inw_X1_walk_X1 hown hK hP 0 rfl rfl 1 (by decide) (hts (.fieldLink RX1 14 "DuelFrames$Duel" "left" "LDuelFrames$Figure;") (List.mem_of_getElem? (i := 1) rfl)) (fun _ h9 => h9) rfl dX1_walk_119 ?_
        refine lv_aload_n hx hb dX1_walk_122 rfl (lv_at hl 0 rfl) ?_
        refine va_get (D := (dC, dI)) (ci := 1) (v := .ref ql) (C := RX1) (T := TX1) (N := 3) hx hb hts inw_X1_walk_X1 hown hK hP 0 rfl rfl 1 (by decide) (hts (.fieldLink RX1 14 "DuelFrames$Duel" "left" "LDuelFrames$Figure;") (List.mem_of_getElem? (i := 1) rfl)) (fun _ h9 => h9) rfl dX1_walk_123 ?_
        refine va_get (D := (dC, dI)) (ci := 2) (v := .int (z_12 0)) (C := RX2) (T := TX2) (N := 16) hx hb hts inw_X1_walk_X2 hown hK hP 1 rfl rfl 0 (by decide) (hts (.fieldLink RX1 52 "DuelFrames$Figure" "place" "I") (List.mem_of_getElem? (i := 3) rfl)) (fun _ h9 => h9) rfl dX1_walk_126 ?_
        refine lv_sipush (v := 580) hx hb dX1_walk_129 (by decide) ?_
        refine va_mmin hx hb (by rw [hml]; exact hl.1.symm) hown (hts (.methodLink RX1 67 Lib.Math.min.name) (List.mem_of_getElem? (i := 8) rfl)) (hts (.static Lib.Math.min.name) (List.mem_of_getElem? (i := 9) rfl)) (hts (.initialized "java/lang/Math") (List.mem_of_getElem? (i := 6) rfl)) (hts (.code Lib.Math.min.name Lib.Math.min.code 2 (some .int)) (List.mem_of_getElem? (i := 10) rfl)) (Nat.le_of_ble_eq_true rfl) (Nat.le_of_ble_eq_true rfl) (Nat.zero_le _) (Nat.zero_le _) dX1_walk_132 ?_
        refine va_put (D := (dC, dI)) (ci := 2) (v := .int (if 580 < (z_12 0) then 580 else (z_12 0))) (ty := .int) (C := RX2) (T := TX2) (N := 16) hx hb hts inw_X1_walk_X2 tyX2 tyX2_ok nmX2 hown hK hP hD hS 1 rfl rfl 0 (by decide) (hts (.fieldLink RX1 52 "DuelFrames$Figure" "place" "I") (List.mem_of_getElem? (i := 3) rfl)) (fun _ h9 => h9) rfl (by decide +kernel) rfl rfl (Nat.le_of_ble_eq_true rfl) dX1_walk_135 (fun H locs hP1 hD1 hS1 => ?_)
        clear hP hD hS
        have hP : va_P (dC, dI) vwCl [(qd, .inr (1, [.ref qm, .ref ql, .ref qr])), (ql, .inr (2, figL (upd z_12 0 (if 580 < (z_12 0) then 580 else (z_12 0))))), (qr, .inr (2, figL (upd z_13 0 600)))] H := hP1
        have hD : va_D A [(qd, .inr (1, [.ref qm, .ref ql, .ref qr])), (ql, .inr (2, figL (upd z_12 0 (if 580 < (z_12 0) then 580 else (z_12 0))))), (qr, .inr (2, figL (upd z_13 0 600)))] := hD1
        have hS := hS1
        clear hP1 hD1 hS1
        have eo_17 : (X1_walk_w1 F G) = (upd z_12 0 (if 580 < (z_12 0) then 580 else (z_12 0))) := by rw [X1_walk_w1]; simp only [← ez_2, ← ez_4, ← ez_8, ← ez_9, ← ez_12, ← ez_13, eq_false c_14, ↓reduceIte]
        have eo_18 : (X1_walk_w2 F G) = (upd z_13 0 600) := by rw [X1_walk_w2]; simp only [← ez_2, ← ez_4, ← ez_8, ← ez_9, ← ez_12, ← ez_13, eq_false c_14, ↓reduceIte]
        have hP9 : va_P (dC, dI) vwCl [(qd, .inr (1, [.ref qm, .ref ql, .ref qr])), (ql, .inr (2, figL (X1_walk_w1 F G))), (qr, .inr (2, figL (X1_walk_w2 F G)))] H := by simp only [eo_17, eo_18]; exact hP
        have hD9 : va_D A [(qd, .inr (1, [.ref qm, .ref ql, .ref qr])), (ql, .inr (2, figL (X1_walk_w1 F G))), (qr, .inr (2, figL (X1_walk_w2 F G)))] := by simp only [eo_17, eo_18]; exact hD
        exact W.vret hx hb hr (fun t ht hW => ⟨⟨(), rfl, trivial, wPost_of hP9 hD9 ht⟩, hS.F ht⟩) hS.2.2 dX1_walk_138
    · intro jn_11
      refine lv_if_ge (tgt := 95) hx hb dX1_walk_65 (by decide) (fun c_10 => ?_) (fun c_10 => ?_)
      · have e_19 : (X1_walk_j95 F G) = z_8 := by rw [X1_walk_j95]; simp only [← ez_2, ← ez_4, ← ez_8, ← ez_9, eq_true c_10, ↓reduceIte]
        have e_20 : (X1_walk_j95_1 F G) = z_9 := by rw [X1_walk_j95_1]; simp only [← ez_2, ← ez_4, ← ez_8, ← ez_9, eq_true c_10, ↓reduceIte]
        exact jn_11 _ _ _ (by (try simp only [e_19, e_20]); exact hP) (by (try simp only [e_19, e_20]); exact hD) hS (by (try simp only [e_19, e_20]); exact (lv_sub hl [0] rfl))
      · refine lv_aload_n hx hb dX1_walk_68 rfl (lv_at hl 0 rfl) ?_
        refine va_get (D := (dC, dI)) (ci := 1) (v := .ref ql) (C := RX1) (T := TX1) (N := 3) hx hb hts inw_X1_walk_X1 hown hK hP 0 rfl rfl 1 (by decide) (hts (.fieldLink RX1 14 "DuelFrames$Duel" "left" "LDuelFrames$Figure;") (List.mem_of_getElem? (i := 1) rfl)) (fun _ h9 => h9) rfl dX1_walk_69 ?_
        refine lv_iconst (v := 0) hx hb dX1_walk_72 (by decide) ?_
        refine va_put (D := (dC, dI)) (ci := 2) (v := .int 0) (ty := .int) (C := RX2) (T := TX2) (N := 16) hx hb hts inw_X1_walk_X2 tyX2 tyX2_ok nmX2 hown hK hP hD hS 1 rfl rfl 0 (by decide) (hts (.fieldLink RX1 52 "DuelFrames$Figure" "place" "I") (List.mem_of_getElem? (i := 3) rfl)) (fun _ h9 => h9) rfl (by decide +kernel) rfl rfl (Nat.le_of_ble_eq_true rfl) dX1_walk_73 (fun H locs hP1 hD1 hS1 => ?_)
        clear hP hD hS
        have hP : va_P (dC, dI) vwCl [(qd, .inr (1, [.ref qm, .ref ql, .ref qr])), (ql, .inr (2, figL (upd z_8 0 0))), (qr, .inr (2, figL z_9))] H := hP1
        have hD : va_D A [(qd, .inr (1, [.ref qm, .ref ql, .ref qr])), (ql, .inr (2, figL (upd z_8 0 0))), (qr, .inr (2, figL z_9))] := hD1
        have hS := hS1
        clear hP1 hD1 hS1
        refine lv_aload_n hx hb dX1_walk_76 rfl (lv_at hl 0 rfl) ?_
        refine va_get (D := (dC, dI)) (ci := 1) (v := .ref qr) (C := RX1) (T := TX1) (N := 3) hx hb hts inw_X1_walk_X1 hown hK hP 0 rfl rfl 2 (by decide) (hts (.fieldLink RX1 20 "DuelFrames$Duel" "right" "LDuelFrames$Figure;") (List.mem_of_getElem? (i := 2) rfl)) (fun _ h9 => h9) rfl dX1_walk_77 ?_
        refine lv_aload_n hx hb dX1_walk_80 rfl (lv_at hl 0 rfl) ?_
        refine va_get (D := (dC, dI)) (ci := 1) (v := .ref qr) (C := RX1) (T := TX1) (N := 3) hx hb hts inw_X1_walk_X1 hown hK hP 0 rfl rfl 2 (by decide) (hts (.fieldLink RX1 20 "DuelFrames$Duel" "right" "LDuelFrames$Figure;") (List.mem_of_getElem? (i := 2) rfl)) (fun _ h9 => h9) rfl dX1_walk_81 ?_
        refine va_get (D := (dC, dI)) (ci := 2) (v := .int (z_9 0)) (C := RX2) (T := TX2) (N := 16) hx hb hts inw_X1_walk_X2 hown hK hP 2 rfl rfl 0 (by decide) (hts (.fieldLink RX1 52 "DuelFrames$Figure" "place" "I") (List.mem_of_getElem? (i := 3) rfl)) (fun _ h9 => h9) rfl dX1_walk_84 ?_
        refine lv_bipush (v := 20) hx hb dX1_walk_87 (by decide) ?_
        refine va_mmax hx hb (by rw [hml]; exact hl.1.symm) hown (hts (.methodLink RX1 61 Lib.Math.max.name) (List.mem_of_getElem? (i := 4) rfl)) (hts (.static Lib.Math.max.name) (List.mem_of_getElem? (i := 5) rfl)) (hts (.initialized "java/lang/Math") (List.mem_of_getElem? (i := 6) rfl)) (hts (.code Lib.Math.max.name Lib.Math.max.code 2 (some .int)) (List.mem_of_getElem? (i := 7) rfl)) (Nat.le_of_ble_eq_true rfl) (Nat.le_of_ble_eq_true rfl) (Nat.zero_le _) (Nat.zero_le _) dX1_walk_89 ?_
        refine va_put (D := (dC, dI)) (ci := 2) (v := .int (if (z_9 0) < 20 then 20 else (z_9 0))) (ty := .int) (C := RX2) (T := TX2) (N := 16) hx hb hts inw_X1_walk_X2 tyX2 tyX2_ok nmX2 hown hK hP hD hS 2 rfl rfl 0 (by decide) (hts (.fieldLink RX1 52 "DuelFrames$Figure" "place" "I") (List.mem_of_getElem? (i := 3) rfl)) (fun _ h9 => h9) rfl (by decide +kernel) rfl rfl (Nat.le_of_ble_eq_true rfl) dX1_walk_92 (fun H locs hP1 hD1 hS1 => ?_)
        clear hP hD hS
        have hP : va_P (dC, dI) vwCl [(qd, .inr (1, [.ref qm, .ref ql, .ref qr])), (ql, .inr (2, figL (upd z_8 0 0))), (qr, .inr (2, figL (upd z_9 0 (if (z_9 0) < 20 then 20 else (z_9 0)))))] H := hP1
        have hD : va_D A [(qd, .inr (1, [.ref qm, .ref ql, .ref qr])), (ql, .inr (2, figL (upd z_8 0 0))), (qr, .inr (2, figL (upd z_9 0 (if (z_9 0) < 20 then 20 else (z_9 0)))))] := hD1
        have hS := hS1
        clear hP1 hD1 hS1
        have e_21 : (X1_walk_j95 F G) = (upd z_8 0 0) := by rw [X1_walk_j95]; simp only [← ez_2, ← ez_4, ← ez_8, ← ez_9, eq_false c_10, ↓reduceIte]
        have e_22 : (X1_walk_j95_1 F G) = (upd z_9 0 (if (z_9 0) < 20 then 20 else (z_9 0))) := by rw [X1_walk_j95_1]; simp only [← ez_2, ← ez_4, ← ez_8, ← ez_9, eq_false c_10, ↓reduceIte]
        exact jn_11 _ _ _ (by (try simp only [e_21, e_22]); exact hP) (by (try simp only [e_21, e_22]); exact hD) hS (by (try simp only [e_21, e_22]); exact (lv_sub hl [0] rfl))
  · intro jn_7
    refine lv_if_le (tgt := 58) hx hb dX1_walk_23 (by decide) (fun c_6 => ?_) (fun c_6 => ?_)
    · have e_23 : (X1_walk_j58 F G) = z_2 := by rw [X1_walk_j58]; simp only [← ez_2, ← ez_4, eq_true c_6, ↓reduceIte]
      have e_24 : (X1_walk_j58_1 F G) = z_4 := by rw [X1_walk_j58_1]; simp only [← ez_2, ← ez_4, eq_true c_6, ↓reduceIte]
      exact jn_7 _ _ _ (by (try simp only [e_23, e_24]); exact hP) (by (try simp only [e_23, e_24]); exact hD) hS (by (try simp only [e_23, e_24]); exact (lv_sub hl [1] rfl))
    · refine lv_aload_n hx hb dX1_walk_26 rfl (lv_at hl 1 rfl) ?_
      refine va_get (D := (dC, dI)) (ci := 1) (v := .ref ql) (C := RX1) (T := TX1) (N := 3) hx hb hts inw_X1_walk_X1 hown hK hP 0 rfl rfl 1 (by decide) (hts (.fieldLink RX1 14 "DuelFrames$Duel" "left" "LDuelFrames$Figure;") (List.mem_of_getElem? (i := 1) rfl)) (fun _ h9 => h9) rfl dX1_walk_27 ?_
      refine lv_dup hx hb dX1_walk_30 rfl ?_
      refine va_get (D := (dC, dI)) (ci := 2) (v := .int (z_2 0)) (C := RX2) (T := TX2) (N := 16) hx hb hts inw_X1_walk_X2 hown hK hP 1 rfl rfl 0 (by decide) (hts (.fieldLink RX1 52 "DuelFrames$Figure" "place" "I") (List.mem_of_getElem? (i := 3) rfl)) (fun _ h9 => h9) rfl dX1_walk_31 ?_
      refine lv_iload_n hx hb dX1_walk_34 rfl (lv_at hl 0 rfl) ?_
      refine lv_iconst (v := 2) hx hb dX1_walk_35 (by decide) ?_
      refine lv_idiv hx hb dX1_walk_36 (by decide) ?_
      refine lv_isub hx hb dX1_walk_37 ?_
      refine va_put (D := (dC, dI)) (ci := 2) (v := .int ((z_2 0) - ((20 - (X1_apart_r z_2 z_4)) / 2))) (ty := .int) (C := RX2) (T := TX2) (N := 16) hx hb hts inw_X1_walk_X2 tyX2 tyX2_ok nmX2 hown hK hP hD hS 1 rfl rfl 0 (by decide) (hts (.fieldLink RX1 52 "DuelFrames$Figure" "place" "I") (List.mem_of_getElem? (i := 3) rfl)) (fun _ h9 => h9) rfl (by decide +kernel) rfl rfl (Nat.le_of_ble_eq_true rfl) dX1_walk_38 (fun H locs hP1 hD1 hS1 => ?_)
      clear hP hD hS
      have hP : va_P (dC, dI) vwCl [(qd, .inr (1, [.ref qm, .ref ql, .ref qr])), (ql, .inr (2, figL (upd z_2 0 ((z_2 0) - ((20 - (X1_apart_r z_2 z_4)) / 2))))), (qr, .inr (2, figL z_4))] H := hP1
      have hD : va_D A [(qd, .inr (1, [.ref qm, .ref ql, .ref qr])), (ql, .inr (2, figL (upd z_2 0 ((z_2 0) - ((20 - (X1_apart_r z_2 z_4)) / 2))))), (qr, .inr (2, figL z_4))] := hD1
      have hS := hS1
      clear hP1 hD1 hS1
      refine lv_aload_n hx hb dX1_walk_41 rfl (lv_at hl 1 rfl) ?_
      refine va_get (D := (dC, dI)) (ci := 1) (v := .ref qr) (C := RX1) (T := TX1) (N := 3) hx hb hts inw_X1_walk_X1 hown hK hP 0 rfl rfl 2 (by decide) (hts (.fieldLink RX1 20 "DuelFrames$Duel" "right" "LDuelFrames$Figure;") (List.mem_of_getElem? (i := 2) rfl)) (fun _ h9 => h9) rfl dX1_walk_42 ?_
      refine lv_dup hx hb dX1_walk_45 rfl ?_
      refine va_get (D := (dC, dI)) (ci := 2) (v := .int (z_4 0)) (C := RX2) (T := TX2) (N := 16) hx hb hts inw_X1_walk_X2 hown hK hP 2 rfl rfl 0 (by decide) (hts (.fieldLink RX1 52 "DuelFrames$Figure" "place" "I") (List.mem_of_getElem? (i := 3) rfl)) (fun _ h9 => h9) rfl dX1_walk_46 ?_
      refine lv_iload_n hx hb dX1_walk_49 rfl (lv_at hl 0 rfl) ?_
      refine lv_iload_n hx hb dX1_walk_50 rfl (lv_at hl 0 rfl) ?_
      refine lv_iconst (v := 2) hx hb dX1_walk_51 (by decide) ?_
      refine lv_idiv hx hb dX1_walk_52 (by decide) ?_
      refine lv_isub hx hb dX1_walk_53 ?_
      refine lv_iadd hx hb dX1_walk_54 ?_
      refine va_put (D := (dC, dI)) (ci := 2) (v := .int ((z_4 0) + ((20 - (X1_apart_r z_2 z_4)) - ((20 - (X1_apart_r z_2 z_4)) / 2)))) (ty := .int) (C := RX2) (T := TX2) (N := 16) hx hb hts inw_X1_walk_X2 tyX2 tyX2_ok nmX2 hown hK hP hD hS 2 rfl rfl 0 (by decide) (hts (.fieldLink RX1 52 "DuelFrames$Figure" "place" "I") (List.mem_of_getElem? (i := 3) rfl)) (fun _ h9 => h9) rfl (by decide +kernel) rfl rfl (Nat.le_of_ble_eq_true rfl) dX1_walk_55 (fun H locs hP1 hD1 hS1 => ?_)
      clear hP hD hS
      have hP : va_P (dC, dI) vwCl [(qd, .inr (1, [.ref qm, .ref ql, .ref qr])), (ql, .inr (2, figL (upd z_2 0 ((z_2 0) - ((20 - (X1_apart_r z_2 z_4)) / 2))))), (qr, .inr (2, figL (upd z_4 0 ((z_4 0) + ((20 - (X1_apart_r z_2 z_4)) - ((20 - (X1_apart_r z_2 z_4)) / 2))))))] H := hP1
      have hD : va_D A [(qd, .inr (1, [.ref qm, .ref ql, .ref qr])), (ql, .inr (2, figL (upd z_2 0 ((z_2 0) - ((20 - (X1_apart_r z_2 z_4)) / 2))))), (qr, .inr (2, figL (upd z_4 0 ((z_4 0) + ((20 - (X1_apart_r z_2 z_4)) - ((20 - (X1_apart_r z_2 z_4)) / 2))))))] := hD1
      have hS := hS1
      clear hP1 hD1 hS1
      have e_25 : (X1_walk_j58 F G) = (upd z_2 0 ((z_2 0) - ((20 - (X1_apart_r z_2 z_4)) / 2))) := by rw [X1_walk_j58]; simp only [← ez_2, ← ez_4, eq_false c_6, ↓reduceIte]
      have e_26 : (X1_walk_j58_1 F G) = (upd z_4 0 ((z_4 0) + ((20 - (X1_apart_r z_2 z_4)) - ((20 - (X1_apart_r z_2 z_4)) / 2)))) := by rw [X1_walk_j58_1]; simp only [← ez_2, ← ez_4, eq_false c_6, ↓reduceIte]
      exact jn_7 _ _ _ (by (try simp only [e_25, e_26]); exact hP) (by (try simp only [e_25, e_26]); exact hD) hS (by (try simp only [e_25, e_26]); exact (lv_sub hl [1] rfl))
theorem inw_X1_reaches_X2 : ∀ w ∈ u_ws RX2 TX2 16, w ∈ wsX1_reaches := fun _ h => List.mem_cons_of_mem _ (List.mem_append_left _ (List.mem_append_left _ (List.mem_append_right _ h)))
def X1_reachesL_j32 (F : Nat → Int32) (mv : Nat → Int32) : Int32 := (if (F 3) = 1 then (if (F 7) = (-1) then (if (X4_isActiveIn_r mv (F 6)) = 0 then 0 else 1) else 0) else 0)
theorem inw_X1_reaches_X4 : ∀ w ∈ u_ws RX4 TX4 8, w ∈ wsX1_reaches := fun _ h => List.mem_cons_of_mem _ (List.mem_append_left _ (List.mem_append_right _ h))
def X1_reachesL_j62 (G : Nat → Int32) (mv : Nat → Int32) : Int32 := (if (mv 4) = 3 then (if (G 3) = 0 then 1 else (if (G 3) = 1 then 1 else 0)) else 1)
def X1_reachesL_r (F : Nat → Int32) (G : Nat → Int32) (mv : Nat → Int32) : Int32 := (if (X1_reachesL_j32 F mv) = 0 then 0 else (if (X1_reachesL_j62 G mv) = 0 then 0 else (if (mv 3) < (X1_apart_r F G) then 0 else 1)))
set_option maxHeartbeats 4000000 in
set_option maxRecDepth 100000 in
theorem c_X1_reachesL (l : Launch) (dC : Nat → ClassId) (dI : Nat → Nat → Nat) (cY : Nat → ClassId) (qd : Nat) (qm : Nat) (ql : Nat) (qr : Nat) (F : Nat → Int32) (G : Nat → Int32) (h0 : Nat) (ht : Nat) (hi : Nat) (mv : Nat → Int32)  : Met l yX1_reaches wsX1_reaches ({ frames := 1, cells := 0, slots := 0, locals := 21 } : Room) (va_Pc [.ref qd, .ref ql, .ref h0, .ref qr] (rPre (dC, dI) (tyL cY) [(qd, .inr (1, [.ref qm, .ref ql, .ref qr])), (ql, .inr (2, figL F)), (qr, .inr (2, figL G)), (h0, .inr (4, [.int (mv 0), .int (mv 1), .int (mv 2), .int (mv 3), .int (mv 4), .int (mv 5), .ref ht, .ref hi])), (ht, .inl (cY 0, 5, .inl (fun k => mv (6 + k)))), (hi, .inl (cY 1, 6, .inl (fun k => mv (11 + k))))])) (vp_Si (fun r => r = (X1_reachesL_r F G mv) ∧ (r = 0 ∨ r = 1))) 0 0 (fun _ => False) := by
  refine Met.ofW (cc := cX1_reaches) (maxL := 6) (ret := (some .boolean)) (by decide) rfl ?_
  intro p e s m args below meth c s₁ B hml hv
  obtain ⟨rfl, hP, hK, hN⟩ := hv
  have hx := B.exec
  have hb := B.bytes
  have hr := B.returns
  have hts := atoms_spec (ws := wsX1_reaches) B.pre
  have hown : s.vm.findClass RX1 = some m.cls := findClass_of_methodNamed B.named
  have hlocks := B.notSynchronized
  have hP : va_P (dC, dI) vwCl [(qd, .inr (1, [.ref qm, .ref ql, .ref qr])), (ql, .inr (2, figL F)), (qr, .inr (2, figL G)), (h0, .inr (4, [.int (mv 0), .int (mv 1), .int (mv 2), .int (mv 3), .int (mv 4), .int (mv 5), .ref ht, .ref hi])), (ht, .inl (cY 0, 5, .inl (fun k => mv (6 + k)))), (hi, .inl (cY 1, 6, .inl (fun k => mv (11 + k))))] s.heap := hP
  have hl := lv_entry ([.ref qd, .ref ql, .ref h0, .ref qr]) (n := 6) (Nat.le_of_ble_eq_true rfl)
  rw [lg_entry_eq]
  generalize (lg_sl ([.ref qd, .ref ql, .ref h0, .ref qr]) ++ List.replicate (6 - (lg_sl ([.ref qd, .ref ql, .ref h0, .ref qr])).length) Slot.unset).toArray = ls at hl ⊢
  have hl : lv_has ls 6 [(0, .ref qd), (1, .ref ql), (2, .ref h0), (3, .ref qr)] := hl
  refine lv_aload_n hx hb dX1_reaches_0 rfl (lv_at hl 1 rfl) ?_
  refine va_get (D := (dC, dI)) (ci := 2) (v := .int (F 3)) (C := RX2) (T := TX2) (N := 16) hx hb hts inw_X1_reaches_X2 hown hK hP 1 rfl rfl 3 (by decide) (hts (.fieldLink RX1 98 "DuelFrames$Figure" "does" "I") (List.mem_of_getElem? (i := 1) rfl)) (fun _ h9 => h9) rfl dX1_reaches_1 ?_
  refine lv_iconst (v := 1) hx hb dX1_reaches_4 (by decide) ?_
  refine jnR (lv := [(0, .ref qd), (2, .ref h0), (3, .ref qr)]) (st := [.int (X1_reachesL_j32 F mv)]) (J := 32) (n := 6) ?_ ?_
  · intro ls hl
    refine lv_istore (lv' := [(4, .int (X1_reachesL_j32 F mv)), (0, .ref qd), (2, .ref h0), (3, .ref qr)]) hx hb dX1_reaches_32 hl (by decide) rfl (fun ls hl => ?_)
    refine lv_aload_n hx hb dX1_reaches_34 rfl (lv_at hl 2 rfl) ?_
    refine va_get (D := (dC, dI)) (ci := 4) (v := .int (mv 4)) (C := RX4) (T := TX4) (N := 8) hx hb hts inw_X1_reaches_X4 hown hK hP 3 rfl rfl 4 (by decide) (hts (.fieldLink RX1 83 "DuelFrames$Move" "kind" "I") (List.mem_of_getElem? (i := 4) rfl)) (fun _ h9 => h9) rfl dX1_reaches_35 ?_
    refine lv_iconst (v := 3) hx hb dX1_reaches_38 (by decide) ?_
    refine jnR (lv := [(4, .int (X1_reachesL_j32 F mv)), (0, .ref qd), (2, .ref h0)]) (st := [.int (X1_reachesL_j62 G mv)]) (J := 62) (n := 6) ?_ ?_
    · intro ls hl
      refine lv_istore (lv' := [(5, .int (X1_reachesL_j62 G mv)), (4, .int (X1_reachesL_j32 F mv)), (0, .ref qd), (2, .ref h0)]) hx hb dX1_reaches_62 hl (by decide) rfl (fun ls hl => ?_)
      refine lv_iload hx hb dX1_reaches_64 (lv_at hl 1 rfl) ?_
      refine lv_if_eq (tgt := 89) hx hb dX1_reaches_66 (by decide) (fun c_5 => ?_) (fun c_5 => ?_)
      · refine lv_iconst (v := 0) hx hb dX1_reaches_89 (by decide) ?_
        have eo_6 : (X1_reachesL_r F G mv) = 0 := by rw [X1_reachesL_r]; simp only [eq_true c_5, ↓reduceIte]
        exact W.zret (v := 0) (ty := .boolean) hx hb hr rfl (fun t ht _ => ⟨_, rfl, ⟨eo_6.symm, (by decide)⟩, ht⟩) (fun _ h => absurd h List.not_mem_nil) dX1_reaches_90
      · refine lv_iload hx hb dX1_reaches_69 (lv_at hl 0 rfl) ?_
        refine lv_if_eq (tgt := 89) hx hb dX1_reaches_71 (by decide) (fun c_7 => ?_) (fun c_7 => ?_)
        · refine lv_iconst (v := 0) hx hb dX1_reaches_89 (by decide) ?_
          have eo_8 : (X1_reachesL_r F G mv) = 0 := by rw [X1_reachesL_r]; simp only [eq_false c_5, eq_true c_7, ↓reduceIte]
          exact W.zret (v := 0) (ty := .boolean) hx hb hr rfl (fun t ht _ => ⟨_, rfl, ⟨eo_8.symm, (by decide)⟩, ht⟩) (fun _ h => absurd h List.not_mem_nil) dX1_reaches_90
        · refine lv_aload_n hx hb dX1_reaches_74 rfl (lv_at hl 2 rfl) ?_
          have hPc := hP.sub (ws' := [(qd, .inr (1, [.ref qm, .ref ql, .ref qr])), (ql, .inr (2, figL F)), (qr, .inr (2, figL G))]) [0, 1, 2] rfl
          refine vp_callSi (W.runV (As := []) (rest := []) ⟨hx, hb, hml, hown, hts⟩ (c_X1_apart l dC dI cY qd qm ql qr F G) (cwV 0 hts gX1_reaches_X1_apart rfl rfl rfl (by decide +kernel) ⟨Nat.le_of_ble_eq_true rfl, Nat.le_of_ble_eq_true rfl⟩) ⟨blindR, va_recv hK hPc (ci := 1) (q0 := 0) rfl rfl, fun U hU hW => ⟨rfl, rPre_of hPc hK hN U hU hW⟩⟩ rfl rfl hl.1 rfl (lv_room (Nat.le_of_ble_eq_true rfl)) dX1_reaches_75 ⟨Nat.zero_le _, Nat.zero_le _⟩) (fun r_9 hw => ?_)
          subst hw
          refine lv_aload_n hx hb dX1_reaches_78 rfl (lv_at hl 3 rfl) ?_
          refine va_get (D := (dC, dI)) (ci := 4) (v := .int (mv 3)) (C := RX4) (T := TX4) (N := 8) hx hb hts inw_X1_reaches_X4 hown hK hP 3 rfl rfl 3 (by decide) (hts (.fieldLink RX1 111 "DuelFrames$Move" "reach" "I") (List.mem_of_getElem? (i := 5) rfl)) (fun _ h9 => h9) rfl dX1_reaches_79 ?_
          refine lv_icmp_gt (tgt := 89) hx hb dX1_reaches_82 (by decide) (fun c_10 => ?_) (fun c_10 => ?_)
          · refine lv_iconst (v := 0) hx hb dX1_reaches_89 (by decide) ?_
            have eo_11 : (X1_reachesL_r F G mv) = 0 := by rw [X1_reachesL_r]; simp only [eq_false c_5, eq_false c_7, eq_true c_10, ↓reduceIte]
            exact W.zret (v := 0) (ty := .boolean) hx hb hr rfl (fun t ht _ => ⟨_, rfl, ⟨eo_11.symm, (by decide)⟩, ht⟩) (fun _ h => absurd h List.not_mem_nil) dX1_reaches_90
          · refine lv_iconst (v := 1) hx hb dX1_reaches_85 (by decide) ?_
            refine lv_goto (tgt := 90) hx hb dX1_reaches_86 (by decide) ?_
            have eo_12 : (X1_reachesL_r F G mv) = 1 := by rw [X1_reachesL_r]; simp only [eq_false c_5, eq_false c_7, eq_false c_10, ↓reduceIte]
            exact W.zret (v := 1) (ty := .boolean) hx hb hr rfl (fun t ht _ => ⟨_, rfl, ⟨eo_12.symm, (by decide)⟩, ht⟩) (fun _ h => absurd h List.not_mem_nil) dX1_reaches_90
    · intro jn_4
      refine lv_icmp_ne (tgt := 57) hx hb dX1_reaches_39 (by decide) (fun c_3 => ?_) (fun c_3 => ?_)
      · refine lv_iconst (v := 1) hx hb dX1_reaches_57 (by decide) ?_
        refine lv_goto (tgt := 62) hx hb dX1_reaches_58 (by decide) ?_
        have e_13 : (X1_reachesL_j62 G mv) = 1 := by rw [X1_reachesL_j62]; simp only [eq_false c_3, ↓reduceIte]
        refine W.eq (g2 := F0 m 62 ls [.int (X1_reachesL_j62 G mv)]) (by simp only [e_13]) ?_
        exact jn_4 _ (by (try simp only [e_13]); exact (lv_sub hl [0, 1, 2] rfl))
      · refine lv_aload_n hx hb dX1_reaches_42 rfl (lv_at hl 3 rfl) ?_
        refine va_get (D := (dC, dI)) (ci := 2) (v := .int (G 3)) (C := RX2) (T := TX2) (N := 16) hx hb hts inw_X1_reaches_X2 hown hK hP 2 rfl rfl 3 (by decide) (hts (.fieldLink RX1 98 "DuelFrames$Figure" "does" "I") (List.mem_of_getElem? (i := 1) rfl)) (fun _ h9 => h9) rfl dX1_reaches_43 ?_
        refine lv_if_eq (tgt := 57) hx hb dX1_reaches_46 (by decide) (fun c_14 => ?_) (fun c_14 => ?_)
        · refine lv_iconst (v := 1) hx hb dX1_reaches_57 (by decide) ?_
          refine lv_goto (tgt := 62) hx hb dX1_reaches_58 (by decide) ?_
          have e_15 : (X1_reachesL_j62 G mv) = 1 := by rw [X1_reachesL_j62]; simp only [eq_true c_3, eq_true c_14, ↓reduceIte]
          refine W.eq (g2 := F0 m 62 ls [.int (X1_reachesL_j62 G mv)]) (by simp only [e_15]) ?_
          exact jn_4 _ (by (try simp only [e_15]); exact (lv_sub hl [0, 1, 2] rfl))
        · refine lv_aload_n hx hb dX1_reaches_49 rfl (lv_at hl 3 rfl) ?_
          refine va_get (D := (dC, dI)) (ci := 2) (v := .int (G 3)) (C := RX2) (T := TX2) (N := 16) hx hb hts inw_X1_reaches_X2 hown hK hP 2 rfl rfl 3 (by decide) (hts (.fieldLink RX1 98 "DuelFrames$Figure" "does" "I") (List.mem_of_getElem? (i := 1) rfl)) (fun _ h9 => h9) rfl dX1_reaches_50 ?_
          refine lv_iconst (v := 1) hx hb dX1_reaches_53 (by decide) ?_
          refine lv_icmp_ne (tgt := 61) hx hb dX1_reaches_54 (by decide) (fun c_16 => ?_) (fun c_16 => ?_)
          · refine lv_iconst (v := 0) hx hb dX1_reaches_61 (by decide) ?_
            have e_17 : (X1_reachesL_j62 G mv) = 0 := by rw [X1_reachesL_j62]; simp only [eq_true c_3, eq_false c_14, eq_false c_16, ↓reduceIte]
            refine W.eq (g2 := F0 m 62 ls [.int (X1_reachesL_j62 G mv)]) (by simp only [e_17]) ?_
            exact jn_4 _ (by (try simp only [e_17]); exact (lv_sub hl [0, 1, 2] rfl))
          · refine lv_iconst (v := 1) hx hb dX1_reaches_57 (by decide) ?_
            refine lv_goto (tgt := 62) hx hb dX1_reaches_58 (by decide) ?_
            have e_18 : (X1_reachesL_j62 G mv) = 1 := by rw [X1_reachesL_j62]; simp only [eq_true c_3, eq_false c_14, eq_true c_16, ↓reduceIte]
            refine W.eq (g2 := F0 m 62 ls [.int (X1_reachesL_j62 G mv)]) (by simp only [e_18]) ?_
            exact jn_4 _ (by (try simp only [e_18]); exact (lv_sub hl [0, 1, 2] rfl))
  · intro jn_2
    refine lv_icmp_ne (tgt := 31) hx hb dX1_reaches_5 (by decide) (fun c_1 => ?_) (fun c_1 => ?_)
    · refine lv_iconst (v := 0) hx hb dX1_reaches_31 (by decide) ?_
      have e_19 : (X1_reachesL_j32 F mv) = 0 := by rw [X1_reachesL_j32]; simp only [eq_false c_1, ↓reduceIte]
      refine W.eq (g2 := F0 m 32 ls [.int (X1_reachesL_j32 F mv)]) (by simp only [e_19]) ?_
      exact jn_2 _ (by (try simp only [e_19]); exact (lv_sub hl [0, 2, 3] rfl))
    · refine lv_aload_n hx hb dX1_reaches_8 rfl (lv_at hl 1 rfl) ?_
      refine va_get (D := (dC, dI)) (ci := 2) (v := .int (F 7)) (C := RX2) (T := TX2) (N := 16) hx hb hts inw_X1_reaches_X2 hown hK hP 1 rfl rfl 7 (by decide) (hts (.fieldLink RX1 101 "DuelFrames$Figure" "touchedAgo" "I") (List.mem_of_getElem? (i := 2) rfl)) (fun _ h9 => h9) rfl dX1_reaches_9 ?_
      refine lv_iconst (v := (-1)) hx hb dX1_reaches_12 (by decide) ?_
      refine lv_icmp_ne (tgt := 31) hx hb dX1_reaches_13 (by decide) (fun c_20 => ?_) (fun c_20 => ?_)
      · refine lv_iconst (v := 0) hx hb dX1_reaches_31 (by decide) ?_
        have e_21 : (X1_reachesL_j32 F mv) = 0 := by rw [X1_reachesL_j32]; simp only [eq_true c_1, eq_false c_20, ↓reduceIte]
        refine W.eq (g2 := F0 m 32 ls [.int (X1_reachesL_j32 F mv)]) (by simp only [e_21]) ?_
        exact jn_2 _ (by (try simp only [e_21]); exact (lv_sub hl [0, 2, 3] rfl))
      · refine lv_aload_n hx hb dX1_reaches_16 rfl (lv_at hl 2 rfl) ?_
        refine lv_aload_n hx hb dX1_reaches_17 rfl (lv_at hl 1 rfl) ?_
        refine va_get (D := (dC, dI)) (ci := 2) (v := .int (F 6)) (C := RX2) (T := TX2) (N := 16) hx hb hts inw_X1_reaches_X2 hown hK hP 1 rfl rfl 6 (by decide) (hts (.fieldLink RX1 104 "DuelFrames$Figure" "frame" "I") (List.mem_of_getElem? (i := 3) rfl)) (fun _ h9 => h9) rfl dX1_reaches_18 ?_
        have hPc := hP.sub (ws' := [(h0, .inr (4, [.int (mv 0), .int (mv 1), .int (mv 2), .int (mv 3), .int (mv 4), .int (mv 5), .ref ht, .ref hi])), (ht, .inl (cY 0, 5, .inl (fun k => mv (6 + k)))), (hi, .inl (cY 1, 6, .inl (fun k => mv (11 + k))))]) [3, 4, 5] rfl
        refine vp_callSi (W.runV (As := [.int (F 6)]) (rest := []) ⟨hx, hb, hml, hown, hts⟩ (c_X4_isActiveIn l dC dI cY h0 ht hi mv (F 6)) (cwV 1 hts gX1_reaches_X4_isActiveIn rfl rfl rfl (by decide +kernel) ⟨Nat.le_of_ble_eq_true rfl, Nat.le_of_ble_eq_true rfl⟩) ⟨blindR, va_recv hK hPc (ci := 4) (q0 := 0) rfl rfl, fun U hU hW => ⟨rfl, rPre_of hPc hK hN U hU hW⟩⟩ rfl rfl hl.1 rfl (lv_room (Nat.le_of_ble_eq_true rfl)) dX1_reaches_21 ⟨Nat.zero_le _, Nat.zero_le _⟩) (fun r_22 hw => ?_)
        obtain ⟨hw, hb_23⟩ := hw
        subst hw
        refine lv_if_eq (tgt := 31) hx hb dX1_reaches_24 (by decide) (fun c_24 => ?_) (fun c_24 => ?_)
        · refine lv_iconst (v := 0) hx hb dX1_reaches_31 (by decide) ?_
          have e_25 : (X1_reachesL_j32 F mv) = 0 := by rw [X1_reachesL_j32]; simp only [eq_true c_1, eq_true c_20, eq_true c_24, ↓reduceIte]
          refine W.eq (g2 := F0 m 32 ls [.int (X1_reachesL_j32 F mv)]) (by simp only [e_25]) ?_
          exact jn_2 _ (by (try simp only [e_25]); exact (lv_sub hl [0, 2, 3] rfl))
        · refine lv_iconst (v := 1) hx hb dX1_reaches_27 (by decide) ?_
          refine lv_goto (tgt := 32) hx hb dX1_reaches_28 (by decide) ?_
          have e_26 : (X1_reachesL_j32 F mv) = 1 := by rw [X1_reachesL_j32]; simp only [eq_true c_1, eq_true c_20, eq_false c_24, ↓reduceIte]
          refine W.eq (g2 := F0 m 32 ls [.int (X1_reachesL_j32 F mv)]) (by simp only [e_26]) ?_
          exact jn_2 _ (by (try simp only [e_26]); exact (lv_sub hl [0, 2, 3] rfl))
def X1_reachesR_j32 (G : Nat → Int32) (mv : Nat → Int32) : Int32 := (if (G 3) = 1 then (if (G 7) = (-1) then (if (X4_isActiveIn_r mv (G 6)) = 0 then 0 else 1) else 0) else 0)
def X1_reachesR_j62 (F : Nat → Int32) (mv : Nat → Int32) : Int32 := (if (mv 4) = 3 then (if (F 3) = 0 then 1 else (if (F 3) = 1 then 1 else 0)) else 1)
def X1_reachesR_r (F : Nat → Int32) (G : Nat → Int32) (mv : Nat → Int32) : Int32 := (if (X1_reachesR_j32 G mv) = 0 then 0 else (if (X1_reachesR_j62 F mv) = 0 then 0 else (if (mv 3) < (X1_apart_r F G) then 0 else 1)))
set_option maxHeartbeats 4000000 in
set_option maxRecDepth 100000 in
theorem c_X1_reachesR (l : Launch) (dC : Nat → ClassId) (dI : Nat → Nat → Nat) (cY : Nat → ClassId) (qd : Nat) (qm : Nat) (ql : Nat) (qr : Nat) (F : Nat → Int32) (G : Nat → Int32) (h0 : Nat) (ht : Nat) (hi : Nat) (mv : Nat → Int32)  : Met l yX1_reaches wsX1_reaches ({ frames := 1, cells := 0, slots := 0, locals := 21 } : Room) (va_Pc [.ref qd, .ref qr, .ref h0, .ref ql] (rPre (dC, dI) (tyL cY) [(qd, .inr (1, [.ref qm, .ref ql, .ref qr])), (ql, .inr (2, figL F)), (qr, .inr (2, figL G)), (h0, .inr (4, [.int (mv 0), .int (mv 1), .int (mv 2), .int (mv 3), .int (mv 4), .int (mv 5), .ref ht, .ref hi])), (ht, .inl (cY 0, 5, .inl (fun k => mv (6 + k)))), (hi, .inl (cY 1, 6, .inl (fun k => mv (11 + k))))])) (vp_Si (fun r => r = (X1_reachesR_r F G mv) ∧ (r = 0 ∨ r = 1))) 0 0 (fun _ => False) := by
  refine Met.ofW (cc := cX1_reaches) (maxL := 6) (ret := (some .boolean)) (by decide) rfl ?_
  intro p e s m args below meth c s₁ B hml hv
  obtain ⟨rfl, hP, hK, hN⟩ := hv
  have hx := B.exec
  have hb := B.bytes
  have hr := B.returns
  have hts := atoms_spec (ws := wsX1_reaches) B.pre
  have hown : s.vm.findClass RX1 = some m.cls := findClass_of_methodNamed B.named
  have hlocks := B.notSynchronized
  have hP : va_P (dC, dI) vwCl [(qd, .inr (1, [.ref qm, .ref ql, .ref qr])), (ql, .inr (2, figL F)), (qr, .inr (2, figL G)), (h0, .inr (4, [.int (mv 0), .int (mv 1), .int (mv 2), .int (mv 3), .int (mv 4), .int (mv 5), .ref ht, .ref hi])), (ht, .inl (cY 0, 5, .inl (fun k => mv (6 + k)))), (hi, .inl (cY 1, 6, .inl (fun k => mv (11 + k))))] s.heap := hP
  have hl := lv_entry ([.ref qd, .ref qr, .ref h0, .ref ql]) (n := 6) (Nat.le_of_ble_eq_true rfl)
  rw [lg_entry_eq]
  generalize (lg_sl ([.ref qd, .ref qr, .ref h0, .ref ql]) ++ List.replicate (6 - (lg_sl ([.ref qd, .ref qr, .ref h0, .ref ql])).length) Slot.unset).toArray = ls at hl ⊢
  have hl : lv_has ls 6 [(0, .ref qd), (1, .ref qr), (2, .ref h0), (3, .ref ql)] := hl
  refine lv_aload_n hx hb dX1_reaches_0 rfl (lv_at hl 1 rfl) ?_
  refine va_get (D := (dC, dI)) (ci := 2) (v := .int (G 3)) (C := RX2) (T := TX2) (N := 16) hx hb hts inw_X1_reaches_X2 hown hK hP 2 rfl rfl 3 (by decide) (hts (.fieldLink RX1 98 "DuelFrames$Figure" "does" "I") (List.mem_of_getElem? (i := 1) rfl)) (fun _ h9 => h9) rfl dX1_reaches_1 ?_
  refine lv_iconst (v := 1) hx hb dX1_reaches_4 (by decide) ?_
  refine jnR (lv := [(0, .ref qd), (2, .ref h0), (3, .ref ql)]) (st := [.int (X1_reachesR_j32 G mv)]) (J := 32) (n := 6) ?_ ?_
  · intro ls hl
    refine lv_istore (lv' := [(4, .int (X1_reachesR_j32 G mv)), (0, .ref qd), (2, .ref h0), (3, .ref ql)]) hx hb dX1_reaches_32 hl (by decide) rfl (fun ls hl => ?_)
    refine lv_aload_n hx hb dX1_reaches_34 rfl (lv_at hl 2 rfl) ?_
    refine va_get (D := (dC, dI)) (ci := 4) (v := .int (mv 4)) (C := RX4) (T := TX4) (N := 8) hx hb hts inw_X1_reaches_X4 hown hK hP 3 rfl rfl 4 (by decide) (hts (.fieldLink RX1 83 "DuelFrames$Move" "kind" "I") (List.mem_of_getElem? (i := 4) rfl)) (fun _ h9 => h9) rfl dX1_reaches_35 ?_
    refine lv_iconst (v := 3) hx hb dX1_reaches_38 (by decide) ?_
    refine jnR (lv := [(4, .int (X1_reachesR_j32 G mv)), (0, .ref qd), (2, .ref h0)]) (st := [.int (X1_reachesR_j62 F mv)]) (J := 62) (n := 6) ?_ ?_
    · intro ls hl
      refine lv_istore (lv' := [(5, .int (X1_reachesR_j62 F mv)), (4, .int (X1_reachesR_j32 G mv)), (0, .ref qd), (2, .ref h0)]) hx hb dX1_reaches_62 hl (by decide) rfl (fun ls hl => ?_)
      refine lv_iload hx hb dX1_reaches_64 (lv_at hl 1 rfl) ?_
      refine lv_if_eq (tgt := 89) hx hb dX1_reaches_66 (by decide) (fun c_5 => ?_) (fun c_5 => ?_)
      · refine lv_iconst (v := 0) hx hb dX1_reaches_89 (by decide) ?_
        have eo_6 : (X1_reachesR_r F G mv) = 0 := by rw [X1_reachesR_r]; simp only [eq_true c_5, ↓reduceIte]
        exact W.zret (v := 0) (ty := .boolean) hx hb hr rfl (fun t ht _ => ⟨_, rfl, ⟨eo_6.symm, (by decide)⟩, ht⟩) (fun _ h => absurd h List.not_mem_nil) dX1_reaches_90
      · refine lv_iload hx hb dX1_reaches_69 (lv_at hl 0 rfl) ?_
        refine lv_if_eq (tgt := 89) hx hb dX1_reaches_71 (by decide) (fun c_7 => ?_) (fun c_7 => ?_)
        · refine lv_iconst (v := 0) hx hb dX1_reaches_89 (by decide) ?_
          have eo_8 : (X1_reachesR_r F G mv) = 0 := by rw [X1_reachesR_r]; simp only [eq_false c_5, eq_true c_7, ↓reduceIte]
          exact W.zret (v := 0) (ty := .boolean) hx hb hr rfl (fun t ht _ => ⟨_, rfl, ⟨eo_8.symm, (by decide)⟩, ht⟩) (fun _ h => absurd h List.not_mem_nil) dX1_reaches_90
        · refine lv_aload_n hx hb dX1_reaches_74 rfl (lv_at hl 2 rfl) ?_
          have hPc := hP.sub (ws' := [(qd, .inr (1, [.ref qm, .ref ql, .ref qr])), (ql, .inr (2, figL F)), (qr, .inr (2, figL G))]) [0, 1, 2] rfl
          refine vp_callSi (W.runV (As := []) (rest := []) ⟨hx, hb, hml, hown, hts⟩ (c_X1_apart l dC dI cY qd qm ql qr F G) (cwV 0 hts gX1_reaches_X1_apart rfl rfl rfl (by decide +kernel) ⟨Nat.le_of_ble_eq_true rfl, Nat.le_of_ble_eq_true rfl⟩) ⟨blindR, va_recv hK hPc (ci := 1) (q0 := 0) rfl rfl, fun U hU hW => ⟨rfl, rPre_of hPc hK hN U hU hW⟩⟩ rfl rfl hl.1 rfl (lv_room (Nat.le_of_ble_eq_true rfl)) dX1_reaches_75 ⟨Nat.zero_le _, Nat.zero_le _⟩) (fun r_9 hw => ?_)
          subst hw
          refine lv_aload_n hx hb dX1_reaches_78 rfl (lv_at hl 3 rfl) ?_
          refine va_get (D := (dC, dI)) (ci := 4) (v := .int (mv 3)) (C := RX4) (T := TX4) (N := 8) hx hb hts inw_X1_reaches_X4 hown hK hP 3 rfl rfl 3 (by decide) (hts (.fieldLink RX1 111 "DuelFrames$Move" "reach" "I") (List.mem_of_getElem? (i := 5) rfl)) (fun _ h9 => h9) rfl dX1_reaches_79 ?_
          refine lv_icmp_gt (tgt := 89) hx hb dX1_reaches_82 (by decide) (fun c_10 => ?_) (fun c_10 => ?_)
          · refine lv_iconst (v := 0) hx hb dX1_reaches_89 (by decide) ?_
            have eo_11 : (X1_reachesR_r F G mv) = 0 := by rw [X1_reachesR_r]; simp only [eq_false c_5, eq_false c_7, eq_true c_10, ↓reduceIte]
            exact W.zret (v := 0) (ty := .boolean) hx hb hr rfl (fun t ht _ => ⟨_, rfl, ⟨eo_11.symm, (by decide)⟩, ht⟩) (fun _ h => absurd h List.not_mem_nil) dX1_reaches_90
          · refine lv_iconst (v := 1) hx hb dX1_reaches_85 (by decide) ?_
            refine lv_goto (tgt := 90) hx hb dX1_reaches_86 (by decide) ?_
            have eo_12 : (X1_reachesR_r F G mv) = 1 := by rw [X1_reachesR_r]; simp only [eq_false c_5, eq_false c_7, eq_false c_10, ↓reduceIte]
            exact W.zret (v := 1) (ty := .boolean) hx hb hr rfl (fun t ht _ => ⟨_, rfl, ⟨eo_12.symm, (by decide)⟩, ht⟩) (fun _ h => absurd h List.not_mem_nil) dX1_reaches_90
    · intro jn_4
      refine lv_icmp_ne (tgt := 57) hx hb dX1_reaches_39 (by decide) (fun c_3 => ?_) (fun c_3 => ?_)
      · refine lv_iconst (v := 1) hx hb dX1_reaches_57 (by decide) ?_
        refine lv_goto (tgt := 62) hx hb dX1_reaches_58 (by decide) ?_
        have e_13 : (X1_reachesR_j62 F mv) = 1 := by rw [X1_reachesR_j62]; simp only [eq_false c_3, ↓reduceIte]
        refine W.eq (g2 := F0 m 62 ls [.int (X1_reachesR_j62 F mv)]) (by simp only [e_13]) ?_
        exact jn_4 _ (by (try simp only [e_13]); exact (lv_sub hl [0, 1, 2] rfl))
      · refine lv_aload_n hx hb dX1_reaches_42 rfl (lv_at hl 3 rfl) ?_
        refine va_get (D := (dC, dI)) (ci := 2) (v := .int (F 3)) (C := RX2) (T := TX2) (N := 16) hx hb hts inw_X1_reaches_X2 hown hK hP 1 rfl rfl 3 (by decide) (hts (.fieldLink RX1 98 "DuelFrames$Figure" "does" "I") (List.mem_of_getElem? (i := 1) rfl)) (fun _ h9 => h9) rfl dX1_reaches_43 ?_
        refine lv_if_eq (tgt := 57) hx hb dX1_reaches_46 (by decide) (fun c_14 => ?_) (fun c_14 => ?_)
        · refine lv_iconst (v := 1) hx hb dX1_reaches_57 (by decide) ?_
          refine lv_goto (tgt := 62) hx hb dX1_reaches_58 (by decide) ?_
          have e_15 : (X1_reachesR_j62 F mv) = 1 := by rw [X1_reachesR_j62]; simp only [eq_true c_3, eq_true c_14, ↓reduceIte]
          refine W.eq (g2 := F0 m 62 ls [.int (X1_reachesR_j62 F mv)]) (by simp only [e_15]) ?_
          exact jn_4 _ (by (try simp only [e_15]); exact (lv_sub hl [0, 1, 2] rfl))
        · refine lv_aload_n hx hb dX1_reaches_49 rfl (lv_at hl 3 rfl) ?_
          refine va_get (D := (dC, dI)) (ci := 2) (v := .int (F 3)) (C := RX2) (T := TX2) (N := 16) hx hb hts inw_X1_reaches_X2 hown hK hP 1 rfl rfl 3 (by decide) (hts (.fieldLink RX1 98 "DuelFrames$Figure" "does" "I") (List.mem_of_getElem? (i := 1) rfl)) (fun _ h9 => h9) rfl dX1_reaches_50 ?_
          refine lv_iconst (v := 1) hx hb dX1_reaches_53 (by decide) ?_
          refine lv_icmp_ne (tgt := 61) hx hb dX1_reaches_54 (by decide) (fun c_16 => ?_) (fun c_16 => ?_)
          · refine lv_iconst (v := 0) hx hb dX1_reaches_61 (by decide) ?_
            have e_17 : (X1_reachesR_j62 F mv) = 0 := by rw [X1_reachesR_j62]; simp only [eq_true c_3, eq_false c_14, eq_false c_16, ↓reduceIte]
            refine W.eq (g2 := F0 m 62 ls [.int (X1_reachesR_j62 F mv)]) (by simp only [e_17]) ?_
            exact jn_4 _ (by (try simp only [e_17]); exact (lv_sub hl [0, 1, 2] rfl))
          · refine lv_iconst (v := 1) hx hb dX1_reaches_57 (by decide) ?_
            refine lv_goto (tgt := 62) hx hb dX1_reaches_58 (by decide) ?_
            have e_18 : (X1_reachesR_j62 F mv) = 1 := by rw [X1_reachesR_j62]; simp only [eq_true c_3, eq_false c_14, eq_true c_16, ↓reduceIte]
            refine W.eq (g2 := F0 m 62 ls [.int (X1_reachesR_j62 F mv)]) (by simp only [e_18]) ?_
            exact jn_4 _ (by (try simp only [e_18]); exact (lv_sub hl [0, 1, 2] rfl))
  · intro jn_2
    refine lv_icmp_ne (tgt := 31) hx hb dX1_reaches_5 (by decide) (fun c_1 => ?_) (fun c_1 => ?_)
    · refine lv_iconst (v := 0) hx hb dX1_reaches_31 (by decide) ?_
      have e_19 : (X1_reachesR_j32 G mv) = 0 := by rw [X1_reachesR_j32]; simp only [eq_false c_1, ↓reduceIte]
      refine W.eq (g2 := F0 m 32 ls [.int (X1_reachesR_j32 G mv)]) (by simp only [e_19]) ?_
      exact jn_2 _ (by (try simp only [e_19]); exact (lv_sub hl [0, 2, 3] rfl))
    · refine lv_aload_n hx hb dX1_reaches_8 rfl (lv_at hl 1 rfl) ?_
      refine va_get (D := (dC, dI)) (ci := 2) (v := .int (G 7)) (C := RX2) (T := TX2) (N := 16) hx hb hts inw_X1_reaches_X2 hown hK hP 2 rfl rfl 7 (by decide) (hts (.fieldLink RX1 101 "DuelFrames$Figure" "touchedAgo" "I") (List.mem_of_getElem? (i := 2) rfl)) (fun _ h9 => h9) rfl dX1_reaches_9 ?_
      refine lv_iconst (v := (-1)) hx hb dX1_reaches_12 (by decide) ?_
      refine lv_icmp_ne (tgt := 31) hx hb dX1_reaches_13 (by decide) (fun c_20 => ?_) (fun c_20 => ?_)
      · refine lv_iconst (v := 0) hx hb dX1_reaches_31 (by decide) ?_
        have e_21 : (X1_reachesR_j32 G mv) = 0 := by rw [X1_reachesR_j32]; simp only [eq_true c_1, eq_false c_20, ↓reduceIte]
        refine W.eq (g2 := F0 m 32 ls [.int (X1_reachesR_j32 G mv)]) (by simp only [e_21]) ?_
        exact jn_2 _ (by (try simp only [e_21]); exact (lv_sub hl [0, 2, 3] rfl))
      · refine lv_aload_n hx hb dX1_reaches_16 rfl (lv_at hl 2 rfl) ?_
        refine lv_aload_n hx hb dX1_reaches_17 rfl (lv_at hl 1 rfl) ?_
        refine va_get (D := (dC, dI)) (ci := 2) (v := .int (G 6)) (C := RX2) (T := TX2) (N := 16) hx hb hts inw_X1_reaches_X2 hown hK hP 2 rfl rfl 6 (by decide) (hts (.fieldLink RX1 104 "DuelFrames$Figure" "frame" "I") (List.mem_of_getElem? (i := 3) rfl)) (fun _ h9 => h9) rfl dX1_reaches_18 ?_
        have hPc := hP.sub (ws' := [(h0, .inr (4, [.int (mv 0), .int (mv 1), .int (mv 2), .int (mv 3), .int (mv 4), .int (mv 5), .ref ht, .ref hi])), (ht, .inl (cY 0, 5, .inl (fun k => mv (6 + k)))), (hi, .inl (cY 1, 6, .inl (fun k => mv (11 + k))))]) [3, 4, 5] rfl
        refine vp_callSi (W.runV (As := [.int (G 6)]) (rest := []) ⟨hx, hb, hml, hown, hts⟩ (c_X4_isActiveIn l dC dI cY h0 ht hi mv (G 6)) (cwV 1 hts gX1_reaches_X4_isActiveIn rfl rfl rfl (by decide +kernel) ⟨Nat.le_of_ble_eq_true rfl, Nat.le_of_ble_eq_true rfl⟩) ⟨blindR, va_recv hK hPc (ci := 4) (q0 := 0) rfl rfl, fun U hU hW => ⟨rfl, rPre_of hPc hK hN U hU hW⟩⟩ rfl rfl hl.1 rfl (lv_room (Nat.le_of_ble_eq_true rfl)) dX1_reaches_21 ⟨Nat.zero_le _, Nat.zero_le _⟩) (fun r_22 hw => ?_)
        obtain ⟨hw, hb_23⟩ := hw
        subst hw
        refine lv_if_eq (tgt := 31) hx hb dX1_reaches_24 (by decide) (fun c_24 => ?_) (fun c_24 => ?_)
        · refine lv_iconst (v := 0) hx hb dX1_reaches_31 (by decide) ?_
          have e_25 : (X1_reachesR_j32 G mv) = 0 := by rw [X1_reachesR_j32]; simp only [eq_true c_1, eq_true c_20, eq_true c_24, ↓reduceIte]
          refine W.eq (g2 := F0 m 32 ls [.int (X1_reachesR_j32 G mv)]) (by simp only [e_25]) ?_
          exact jn_2 _ (by (try simp only [e_25]); exact (lv_sub hl [0, 2, 3] rfl))
        · refine lv_iconst (v := 1) hx hb dX1_reaches_27 (by decide) ?_
          refine lv_goto (tgt := 32) hx hb dX1_reaches_28 (by decide) ?_
          have e_26 : (X1_reachesR_j32 G mv) = 1 := by rw [X1_reachesR_j32]; simp only [eq_true c_1, eq_true c_20, eq_false c_24, ↓reduceIte]
          refine W.eq (g2 := F0 m 32 ls [.int (X1_reachesR_j32 G mv)]) (by simp only [e_26]) ?_
          exact jn_2 _ (by (try simp only [e_26]); exact (lv_sub hl [0, 2, 3] rfl))
theorem inw_X1_part_X1 : ∀ w ∈ u_ws RX1 TX1 3, w ∈ wsX1_part := fun _ h => List.mem_cons_of_mem _ (List.mem_append_left _ (List.mem_append_right _ h))
def X1_part_w1 (F : Nat → Int32) : Nat → Int32 := (X2_goBack_w0 (X2_touch_w0 F 0) 20)
def X1_part_w2 (G : Nat → Int32) : Nat → Int32 := (X2_goBack_w0 (X2_touch_w0 G 0) 20)
set_option maxHeartbeats 4000000 in
set_option maxRecDepth 100000 in
theorem c_X1_part (l : Launch) (dC : Nat → ClassId) (dI : Nat → Nat → Nat) (cY : Nat → ClassId) (qd : Nat) (qm : Nat) (ql : Nat) (qr : Nat) (F : Nat → Int32) (G : Nat → Int32)  (sz : Nat) : Met l yX1_part wsX1_part ({ frames := 1, cells := 0, slots := 0, locals := 23 } : Room) (va_Pc [.ref qd] (wPre (dC, dI) (tyL cY) [(qd, .inr (1, [.ref qm, .ref ql, .ref qr])), (ql, .inr (2, figL F)), (qr, .inr (2, figL G))] sz)) (va_Qv (fun _ : Unit => True) (wPost (dC, dI) [(qd, .inr (1, [.ref qm, .ref ql, .ref qr])), (ql, .inr (2, figL (X1_part_w1 F))), (qr, .inr (2, figL (X1_part_w2 G)))] (va_A [(qd, .inr (1, [.ref qm, .ref ql, .ref qr])), (ql, .inr (2, figL F)), (qr, .inr (2, figL G))] sz)) (va_A [(qd, .inr (1, [.ref qm, .ref ql, .ref qr])), (ql, .inr (2, figL F)), (qr, .inr (2, figL G))] sz)) 0 0 (va_A [(qd, .inr (1, [.ref qm, .ref ql, .ref qr])), (ql, .inr (2, figL F)), (qr, .inr (2, figL G))] sz) := by
  refine Met.ofW (cc := cX1_part) (maxL := 1) (ret := none) (by decide) rfl ?_
  intro p e s m args below meth c s₁ B hml hv
  obtain ⟨rfl, hsz, hP, hK, hN, hD0⟩ := hv
  have hx := B.exec
  have hb := B.bytes
  have hr := B.returns
  have hts := atoms_spec (ws := wsX1_part) B.pre
  have hown : s.vm.findClass RX1 = some m.cls := findClass_of_methodNamed B.named
  have hlocks := B.notSynchronized
  subst hsz
  have hD := hD0.self (sz := s.heap.size)
  generalize hAe : va_A [(qd, .inr (1, [.ref qm, .ref ql, .ref qr])), (ql, .inr (2, figL F)), (qr, .inr (2, figL G))] s.heap.size = A at hD ⊢
  have hA : ∀ q : Nat, s.heap.size ≤ q → A q := fun q h => by rw [← hAe]; exact Or.inr h
  have hS : va_S A s.heap s.heap [] := va_S.rf
  have hP : va_P (dC, dI) vwCl [(qd, .inr (1, [.ref qm, .ref ql, .ref qr])), (ql, .inr (2, figL F)), (qr, .inr (2, figL G))] s.heap := hP
  have hl := lv_entry ([.ref qd]) (n := 1) (Nat.le_of_ble_eq_true rfl)
  rw [lg_entry_eq]
  generalize (lg_sl ([.ref qd]) ++ List.replicate (1 - (lg_sl ([.ref qd])).length) Slot.unset).toArray = ls at hl ⊢
  have hl : lv_has ls 1 [(0, .ref qd)] := hl
  refine lv_aload_n hx hb dX1_part_0 rfl (lv_at hl 0 rfl) ?_
  refine va_get (D := (dC, dI)) (ci := 1) (v := .ref ql) (C := RX1) (T := TX1) (N := 3) hx hb hts inw_X1_part_X1 hown hK hP 0 rfl rfl 1 (by decide) (hts (.fieldLink RX1 14 "DuelFrames$Duel" "left" "LDuelFrames$Figure;") (List.mem_of_getElem? (i := 1) rfl)) (fun _ h9 => h9) rfl dX1_part_1 ?_
  refine lv_iconst (v := 0) hx hb dX1_part_4 (by decide) ?_
  have hPc := hP.sub (ws' := [(ql, .inr (2, figL F))]) [1] rfl
  have hDc := hD.sub (ws' := [(ql, .inr (2, figL F))]) [1] (by decide) rfl
  have hFc := va_free (wc := [(ql, .inr (2, figL F))]) hD hS hA [1] rfl
  refine va_callv (va_runV (As := [.int 0]) (rest := []) ⟨hx, hb, hml, hown, hts⟩ (c_X2_touch l dC dI cY ql F 0 s.heap.size) (cwV 1 hts gX1_part_X2_touch rfl rfl rfl (by decide +kernel) ⟨Nat.le_of_ble_eq_true rfl, Nat.le_of_ble_eq_true rfl⟩) ⟨blindW, va_recv hK hPc (ci := 2) (q0 := 0) rfl rfl, fun U hU hW => ⟨rfl, wPre_of hPc hK hN hDc U hU hW⟩⟩ rfl rfl hl.1 rfl (lv_room (Nat.le_of_ble_eq_true rfl)) dX1_part_5 ⟨Nat.zero_le _, Nat.zero_le _⟩) hS (fun q _ h => hFc q h) hFc (fun u t H1 locs ht hvm hw hB hz1 hk1 hS1 => ?_)
  have hJ := wJoin (wr := [(qd, .inr (1, [.ref qm, .ref ql, .ref qr])), (qr, .inr (2, figL G))]) (w1 := [(ql, .inr (2, figL (X2_touch_w0 F 0)))]) (wn := [(qd, .inr (1, [.ref qm, .ref ql, .ref qr])), (ql, .inr (2, figL (X2_touch_w0 F 0))), (qr, .inr (2, figL G))]) hP hD [1] [0, 2] rfl rfl (by decide) (by decide) hk1 hFc hB ht [0, 2, 1] rfl (by decide)
  clear hB hk1 hFc hPc hDc hP hD hS hz1 hvm ht t
  obtain ⟨hP1, hD1⟩ := hJ
  generalize H1 = H at hP1 hS1 ⊢
  have hP : va_P (dC, dI) vwCl [(qd, .inr (1, [.ref qm, .ref ql, .ref qr])), (ql, .inr (2, figL (X2_touch_w0 F 0))), (qr, .inr (2, figL G))] H := hP1
  have hD : va_D A [(qd, .inr (1, [.ref qm, .ref ql, .ref qr])), (ql, .inr (2, figL (X2_touch_w0 F 0))), (qr, .inr (2, figL G))] := hD1
  have hS := hS1
  clear hP1 hD1 hS1
  obtain ⟨z_2, ez_2⟩ : ∃ z, z = (X2_touch_w0 F 0) := ⟨_, rfl⟩
  rw [← ez_2] at hP hD
  refine lv_aload_n hx hb dX1_part_8 rfl (lv_at hl 0 rfl) ?_
  refine va_get (D := (dC, dI)) (ci := 1) (v := .ref qr) (C := RX1) (T := TX1) (N := 3) hx hb hts inw_X1_part_X1 hown hK hP 0 rfl rfl 2 (by decide) (hts (.fieldLink RX1 20 "DuelFrames$Duel" "right" "LDuelFrames$Figure;") (List.mem_of_getElem? (i := 2) rfl)) (fun _ h9 => h9) rfl dX1_part_9 ?_
  refine lv_iconst (v := 0) hx hb dX1_part_12 (by decide) ?_
  have hPc := hP.sub (ws' := [(qr, .inr (2, figL G))]) [2] rfl
  have hDc := hD.sub (ws' := [(qr, .inr (2, figL G))]) [2] (by decide) rfl
  have hFc := va_free (wc := [(qr, .inr (2, figL G))]) hD hS hA [2] rfl
  refine va_callv (va_runV (As := [.int 0]) (rest := []) ⟨hx, hb, hml, hown, hts⟩ (c_X2_touch l dC dI cY qr G 0 H.size) (cwV 1 hts gX1_part_X2_touch rfl rfl rfl (by decide +kernel) ⟨Nat.le_of_ble_eq_true rfl, Nat.le_of_ble_eq_true rfl⟩) ⟨blindW, va_recv hK hPc (ci := 2) (q0 := 0) rfl rfl, fun U hU hW => ⟨rfl, wPre_of hPc hK hN hDc U hU hW⟩⟩ rfl rfl hl.1 rfl (lv_room (Nat.le_of_ble_eq_true rfl)) dX1_part_13 ⟨Nat.zero_le _, Nat.zero_le _⟩) hS (fun q _ h => hFc q h) hFc (fun u t H1 locs ht hvm hw hB hz1 hk1 hS1 => ?_)
  have hJ := wJoin (wr := [(qd, .inr (1, [.ref qm, .ref ql, .ref qr])), (ql, .inr (2, figL z_2))]) (w1 := [(qr, .inr (2, figL (X2_touch_w0 G 0)))]) (wn := [(qd, .inr (1, [.ref qm, .ref ql, .ref qr])), (ql, .inr (2, figL z_2)), (qr, .inr (2, figL (X2_touch_w0 G 0)))]) hP hD [2] [0, 1] rfl rfl (by decide) (by decide) hk1 hFc hB ht [0, 1, 2] rfl (by decide)
  clear hB hk1 hFc hPc hDc hP hD hS hz1 hvm ht t
  obtain ⟨hP1, hD1⟩ := hJ
  generalize H1 = H at hP1 hS1 ⊢
  have hP : va_P (dC, dI) vwCl [(qd, .inr (1, [.ref qm, .ref ql, .ref qr])), (ql, .inr (2, figL z_2)), (qr, .inr (2, figL (X2_touch_w0 G 0)))] H := hP1
  have hD : va_D A [(qd, .inr (1, [.ref qm, .ref ql, .ref qr])), (ql, .inr (2, figL z_2)), (qr, .inr (2, figL (X2_touch_w0 G 0)))] := hD1
  have hS := hS1
  clear hP1 hD1 hS1
  obtain ⟨z_4, ez_4⟩ : ∃ z, z = (X2_touch_w0 G 0) := ⟨_, rfl⟩
  rw [← ez_4] at hP hD
  refine lv_aload_n hx hb dX1_part_16 rfl (lv_at hl 0 rfl) ?_
  refine va_get (D := (dC, dI)) (ci := 1) (v := .ref ql) (C := RX1) (T := TX1) (N := 3) hx hb hts inw_X1_part_X1 hown hK hP 0 rfl rfl 1 (by decide) (hts (.fieldLink RX1 14 "DuelFrames$Duel" "left" "LDuelFrames$Figure;") (List.mem_of_getElem? (i := 1) rfl)) (fun _ h9 => h9) rfl dX1_part_17 ?_
  refine lv_bipush (v := 20) hx hb dX1_part_20 (by decide) ?_
  have hPc := hP.sub (ws' := [(ql, .inr (2, figL z_2))]) [1] rfl
  have hDc := hD.sub (ws' := [(ql, .inr (2, figL z_2))]) [1] (by decide) rfl
  have hFc := va_free (wc := [(ql, .inr (2, figL z_2))]) hD hS hA [1] rfl
  refine va_calli (va_runV (As := [.int 20]) (rest := []) ⟨hx, hb, hml, hown, hts⟩ (c_X2_goBack l dC dI cY ql z_2 20 H.size) (cwV 1 hts gX1_part_X2_goBack rfl rfl rfl (by decide +kernel) ⟨Nat.le_of_ble_eq_true rfl, Nat.le_of_ble_eq_true rfl⟩) ⟨blindW, va_recv hK hPc (ci := 2) (q0 := 0) rfl rfl, fun U hU hW => ⟨rfl, wPre_of hPc hK hN hDc U hU hW⟩⟩ rfl rfl hl.1 rfl (lv_room (Nat.le_of_ble_eq_true rfl)) dX1_part_22 ⟨Nat.zero_le _, Nat.zero_le _⟩) hS (fun q _ h => hFc q h) hFc (fun r_5 u t H1 locs ht hvm hw hB hz1 hk1 hS1 => ?_)
  subst hw
  have hJ := wJoin (wr := [(qd, .inr (1, [.ref qm, .ref ql, .ref qr])), (qr, .inr (2, figL z_4))]) (w1 := [(ql, .inr (2, figL (X2_goBack_w0 z_2 20)))]) (wn := [(qd, .inr (1, [.ref qm, .ref ql, .ref qr])), (ql, .inr (2, figL (X2_goBack_w0 z_2 20))), (qr, .inr (2, figL z_4))]) hP hD [1] [0, 2] rfl rfl (by decide) (by decide) hk1 hFc hB ht [0, 2, 1] rfl (by decide)
  clear hB hk1 hFc hPc hDc hP hD hS hz1 hvm ht t
  obtain ⟨hP1, hD1⟩ := hJ
  generalize H1 = H at hP1 hS1 ⊢
  have hP : va_P (dC, dI) vwCl [(qd, .inr (1, [.ref qm, .ref ql, .ref qr])), (ql, .inr (2, figL (X2_goBack_w0 z_2 20))), (qr, .inr (2, figL z_4))] H := hP1
  have hD : va_D A [(qd, .inr (1, [.ref qm, .ref ql, .ref qr])), (ql, .inr (2, figL (X2_goBack_w0 z_2 20))), (qr, .inr (2, figL z_4))] := hD1
  have hS := hS1
  clear hP1 hD1 hS1
  obtain ⟨z_6, ez_6⟩ : ∃ z, z = (X2_goBack_w0 z_2 20) := ⟨_, rfl⟩
  rw [← ez_6] at hP hD
  refine lv_pop hx hb dX1_part_25 rfl ?_
  refine lv_aload_n hx hb dX1_part_26 rfl (lv_at hl 0 rfl) ?_
  refine va_get (D := (dC, dI)) (ci := 1) (v := .ref qr) (C := RX1) (T := TX1) (N := 3) hx hb hts inw_X1_part_X1 hown hK hP 0 rfl rfl 2 (by decide) (hts (.fieldLink RX1 20 "DuelFrames$Duel" "right" "LDuelFrames$Figure;") (List.mem_of_getElem? (i := 2) rfl)) (fun _ h9 => h9) rfl dX1_part_27 ?_
  refine lv_bipush (v := 20) hx hb dX1_part_30 (by decide) ?_
  have hPc := hP.sub (ws' := [(qr, .inr (2, figL z_4))]) [2] rfl
  have hDc := hD.sub (ws' := [(qr, .inr (2, figL z_4))]) [2] (by decide) rfl
  have hFc := va_free (wc := [(qr, .inr (2, figL z_4))]) hD hS hA [2] rfl
  refine va_calli (va_runV (As := [.int 20]) (rest := []) ⟨hx, hb, hml, hown, hts⟩ (c_X2_goBack l dC dI cY qr z_4 20 H.size) (cwV 1 hts gX1_part_X2_goBack rfl rfl rfl (by decide +kernel) ⟨Nat.le_of_ble_eq_true rfl, Nat.le_of_ble_eq_true rfl⟩) ⟨blindW, va_recv hK hPc (ci := 2) (q0 := 0) rfl rfl, fun U hU hW => ⟨rfl, wPre_of hPc hK hN hDc U hU hW⟩⟩ rfl rfl hl.1 rfl (lv_room (Nat.le_of_ble_eq_true rfl)) dX1_part_32 ⟨Nat.zero_le _, Nat.zero_le _⟩) hS (fun q _ h => hFc q h) hFc (fun r_7 u t H1 locs ht hvm hw hB hz1 hk1 hS1 => ?_)
  subst hw
  have hJ := wJoin (wr := [(qd, .inr (1, [.ref qm, .ref ql, .ref qr])), (ql, .inr (2, figL z_6))]) (w1 := [(qr, .inr (2, figL (X2_goBack_w0 z_4 20)))]) (wn := [(qd, .inr (1, [.ref qm, .ref ql, .ref qr])), (ql, .inr (2, figL z_6)), (qr, .inr (2, figL (X2_goBack_w0 z_4 20)))]) hP hD [2] [0, 1] rfl rfl (by decide) (by decide) hk1 hFc hB ht [0, 1, 2] rfl (by decide)
  clear hB hk1 hFc hPc hDc hP hD hS hz1 hvm ht t
  obtain ⟨hP1, hD1⟩ := hJ
  generalize H1 = H at hP1 hS1 ⊢
  have hP : va_P (dC, dI) vwCl [(qd, .inr (1, [.ref qm, .ref ql, .ref qr])), (ql, .inr (2, figL z_6)), (qr, .inr (2, figL (X2_goBack_w0 z_4 20)))] H := hP1
  have hD : va_D A [(qd, .inr (1, [.ref qm, .ref ql, .ref qr])), (ql, .inr (2, figL z_6)), (qr, .inr (2, figL (X2_goBack_w0 z_4 20)))] := hD1
  have hS := hS1
  clear hP1 hD1 hS1
  obtain ⟨z_8, ez_8⟩ : ∃ z, z = (X2_goBack_w0 z_4 20) := ⟨_, rfl⟩
  rw [← ez_8] at hP hD
  refine lv_pop hx hb dX1_part_35 rfl ?_
  have eo_9 : (X1_part_w1 F) = z_6 := by rw [X1_part_w1]; (try simp only [← ez_2, ← ez_4, ← ez_6, ← ez_8])
  have eo_10 : (X1_part_w2 G) = z_8 := by rw [X1_part_w2]; (try simp only [← ez_2, ← ez_4, ← ez_6, ← ez_8])
  have hP9 : va_P (dC, dI) vwCl [(qd, .inr (1, [.ref qm, .ref ql, .ref qr])), (ql, .inr (2, figL (X1_part_w1 F))), (qr, .inr (2, figL (X1_part_w2 G)))] H := by simp only [eo_9, eo_10]; exact hP
  have hD9 : va_D A [(qd, .inr (1, [.ref qm, .ref ql, .ref qr])), (ql, .inr (2, figL (X1_part_w1 F))), (qr, .inr (2, figL (X1_part_w2 G)))] := by simp only [eo_9, eo_10]; exact hD
  exact W.vret hx hb hr (fun t ht hW => ⟨⟨(), rfl, trivial, wPost_of hP9 hD9 ht⟩, hS.F ht⟩) hS.2.2 dX1_part_36
def X1_land_j30 (G : Nat → Int32) (MV : Nat → Nat → Int32) (ix : Nat) : Nat → Int32 := (if (X2_blocks_r G (MV ix)) = 0 then (X2_suffer_w0 G MV ix) else (X2_block_w0 G MV ix))
def X1_land_w0 (F : Nat → Int32) (G : Nat → Int32) (MV : Nat → Nat → Int32) (ix : Nat) : Nat → Int32 := (X2_goBack_w0 (X2_touch_w0 F (X4_trait_r (MV ix) 4)) (X2_goBack_r (X1_land_j30 G MV ix) (X4_trait_r (MV ix) 2)))
def X1_land_w1 (G : Nat → Int32) (MV : Nat → Nat → Int32) (ix : Nat) : Nat → Int32 := (X2_goBack_w0 (X1_land_j30 G MV ix) (X4_trait_r (MV ix) 2))
set_option maxHeartbeats 4000000 in
set_option maxRecDepth 100000 in
theorem c_X1_land (l : Launch) (dC : Nat → ClassId) (dI : Nat → Nat → Nat) (cY : Nat → ClassId) (qb : Nat) (qo : Nat) (F : Nat → Int32) (G : Nat → Int32) (AD : Nat → Nat) (MV : Nat → Nat → Int32) (ix : Nat) (hix : ix < 7) (sz : Nat) : Met l yX1_land wsX1_land ({ frames := 2, cells := 0, slots := 0, locals := 46 } : Room) (va_Pc [.ref qb, .ref (AD (2 + ix)), .ref qo] (wPre (dC, dI) (tyL cY) ([(qb, .inr (2, figL F)), (qo, .inr (2, figL G))] ++ bkM AD cY MV) sz)) (va_Qv (fun _ : Unit => True) (wPost (dC, dI) ([(qb, .inr (2, figL (X1_land_w0 F G MV ix))), (qo, .inr (2, figL (X1_land_w1 G MV ix)))] ++ bkM AD cY MV) (va_A ([(qb, .inr (2, figL F)), (qo, .inr (2, figL G))] ++ bkM AD cY MV) sz)) (va_A ([(qb, .inr (2, figL F)), (qo, .inr (2, figL G))] ++ bkM AD cY MV) sz)) 0 0 (va_A ([(qb, .inr (2, figL F)), (qo, .inr (2, figL G))] ++ bkM AD cY MV) sz) := by
  refine Met.ofW (cc := cX1_land) (maxL := 3) (ret := none) (by decide) rfl ?_
  intro p e s m args below meth c s₁ B hml hv
  obtain ⟨rfl, hsz, hP, hK, hN, hD0⟩ := hv
  have hx := B.exec
  have hb := B.bytes
  have hr := B.returns
  have hts := atoms_spec (ws := wsX1_land) B.pre
  have hown : s.vm.findClass RX1 = some m.cls := findClass_of_methodNamed B.named
  have hlocks := B.notSynchronized
  subst hsz
  have hD := hD0.self (sz := s.heap.size)
  generalize hAe : va_A ([(qb, .inr (2, figL F)), (qo, .inr (2, figL G))] ++ bkM AD cY MV) s.heap.size = A at hD ⊢
  have hA : ∀ q : Nat, s.heap.size ≤ q → A q := fun q h => by rw [← hAe]; exact Or.inr h
  have hS : va_S A s.heap s.heap [] := va_S.rf
  have hP : va_P (dC, dI) vwCl ([(qb, .inr (2, figL F)), (qo, .inr (2, figL G))] ++ bkM AD cY MV) s.heap := hP
  have hl := lv_entry ([.ref qb, .ref (AD (2 + ix)), .ref qo]) (n := 3) (Nat.le_of_ble_eq_true rfl)
  rw [lg_entry_eq]
  generalize (lg_sl ([.ref qb, .ref (AD (2 + ix)), .ref qo]) ++ List.replicate (3 - (lg_sl ([.ref qb, .ref (AD (2 + ix)), .ref qo])).length) Slot.unset).toArray = ls at hl ⊢
  have hl : lv_has ls 3 [(0, .ref qb), (1, .ref (AD (2 + ix))), (2, .ref qo)] := hl
  refine lv_aload_n hx hb dX1_land_0 rfl (lv_at hl 0 rfl) ?_
  refine lv_aload_n hx hb dX1_land_1 rfl (lv_at hl 1 rfl) ?_
  refine lv_iconst (v := 4) hx hb dX1_land_2 (by decide) ?_
  have hPc := bk_move hP hix
  refine vp_callSi (W.runV (As := [.int 4]) (rest := [.ref qb]) ⟨hx, hb, hml, hown, hts⟩ (c_X4_trait l dC dI cY (AD (2 + ix)) (AD (9 + ix)) (AD (16 + ix)) (MV ix) 4) (cwV 1 hts gX1_land_X4_trait rfl rfl rfl (by decide +kernel) ⟨Nat.le_of_ble_eq_true rfl, Nat.le_of_ble_eq_true rfl⟩) ⟨blindR, va_recv hK hPc (ci := 4) (q0 := 0) rfl rfl, fun U hU hW => ⟨rfl, rPre_of hPc hK hN U hU hW⟩⟩ rfl rfl hl.1 rfl (lv_room (Nat.le_of_ble_eq_true rfl)) dX1_land_3 ⟨Nat.zero_le _, Nat.zero_le _⟩) (fun r_1 hw => ?_)
  subst hw
  have hPc := hP.sub (ws' := [(qb, .inr (2, figL F))]) [0] rfl
  have hDc := hD.sub (ws' := [(qb, .inr (2, figL F))]) [0] (by decide) rfl
  have hFc := va_free (wc := [(qb, .inr (2, figL F))]) hD hS hA [0] rfl
  refine va_callv (va_runV (As := [.int (X4_trait_r (MV ix) 4)]) (rest := []) ⟨hx, hb, hml, hown, hts⟩ (c_X2_touch l dC dI cY qb F (X4_trait_r (MV ix) 4) s.heap.size) (cwV 1 hts gX1_land_X2_touch rfl rfl rfl (by decide +kernel) ⟨Nat.le_of_ble_eq_true rfl, Nat.le_of_ble_eq_true rfl⟩) ⟨blindW, va_recv hK hPc (ci := 2) (q0 := 0) rfl rfl, fun U hU hW => ⟨rfl, wPre_of hPc hK hN hDc U hU hW⟩⟩ rfl rfl hl.1 rfl (lv_room (Nat.le_of_ble_eq_true rfl)) dX1_land_6 ⟨Nat.zero_le _, Nat.zero_le _⟩) hS (fun q _ h => hFc q h) hFc (fun u t H1 locs ht hvm hw hB hz1 hk1 hS1 => ?_)
  have hJ := wJoinQ (wr := [(qo, .inr (2, figL G))]) (w1 := [(qb, .inr (2, figL (X2_touch_w0 F (X4_trait_r (MV ix) 4))))]) (wn := [(qb, .inr (2, figL (X2_touch_w0 F (X4_trait_r (MV ix) 4)))), (qo, .inr (2, figL G))]) hP hD [0] [1] rfl rfl (by decide) (by decide) hk1 hFc hB ht [1, 0] rfl (by decide)
  clear hB hk1 hFc hPc hDc hP hD hS hz1 hvm ht t
  obtain ⟨hP1, hD1⟩ := hJ
  generalize H1 = H at hP1 hS1 ⊢
  have hP : va_P (dC, dI) vwCl ([(qb, .inr (2, figL (X2_touch_w0 F (X4_trait_r (MV ix) 4)))), (qo, .inr (2, figL G))] ++ bkM AD cY MV) H := hP1
  have hD : va_D A ([(qb, .inr (2, figL (X2_touch_w0 F (X4_trait_r (MV ix) 4)))), (qo, .inr (2, figL G))] ++ bkM AD cY MV) := hD1
  have hS := hS1
  clear hP1 hD1 hS1
  obtain ⟨z_3, ez_3⟩ : ∃ z, z = (X2_touch_w0 F (X4_trait_r (MV ix) 4)) := ⟨_, rfl⟩
  rw [← ez_3] at hP hD
  refine lv_aload_n hx hb dX1_land_9 rfl (lv_at hl 2 rfl) ?_
  refine lv_aload_n hx hb dX1_land_10 rfl (lv_at hl 1 rfl) ?_
  have hPc : va_P (dC, dI) vwCl [(qo, .inr (2, figL G)), (AD (2 + ix), .inr (4, [.int ((MV ix) 0), .int ((MV ix) 1), .int ((MV ix) 2), .int ((MV ix) 3), .int ((MV ix) 4), .int ((MV ix) 5), .ref (AD (9 + ix)), .ref (AD (16 + ix))])), (AD (9 + ix), .inl (cY 0, 5, .inl (fun k => (MV ix) (6 + k)))), (AD (16 + ix), .inl (cY 1, 6, .inl (fun k => (MV ix) (11 + k))))] H := (hP.sub (ws' := [(qo, .inr (2, figL G))]) [1] rfl).app (bk_move hP hix)
  refine vp_callSi (W.runV (As := [.ref (AD (2 + ix))]) (rest := []) ⟨hx, hb, hml, hown, hts⟩ (c_X2_blocks l dC dI cY qo G (AD (2 + ix)) (AD (9 + ix)) (AD (16 + ix)) (MV ix)) (cwV 1 hts gX1_land_X2_blocks rfl rfl rfl (by decide +kernel) ⟨Nat.le_of_ble_eq_true rfl, Nat.le_of_ble_eq_true rfl⟩) ⟨blindR, va_recv hK hPc (ci := 2) (q0 := 0) rfl rfl, fun U hU hW => ⟨rfl, rPre_of hPc hK hN U hU hW⟩⟩ rfl rfl hl.1 rfl (lv_room (Nat.le_of_ble_eq_true rfl)) dX1_land_11 ⟨Nat.zero_le _, Nat.zero_le _⟩) (fun r_4 hw => ?_)
  obtain ⟨hw, hb_5⟩ := hw
  subst hw
  refine jnW (D := (dC, dI)) (ws := ([(qb, .inr (2, figL z_3)), (qo, .inr (2, figL (X1_land_j30 G MV ix)))] ++ bkM AD cY MV)) (lv := [(0, .ref qb), (1, .ref (AD (2 + ix))), (2, .ref qo)]) (st := []) (J := 30) (n := 3) (A := A) (H0 := s.heap) ?_ ?_
  · intro H locs ls hP hD hS hl
    obtain ⟨z_8, ez_8⟩ : ∃ z, z = (X1_land_j30 G MV ix) := ⟨_, rfl⟩
    rw [← ez_8] at hP hD
    refine lv_aload_n hx hb dX1_land_30 rfl (lv_at hl 0 rfl) ?_
    refine lv_aload_n hx hb dX1_land_31 rfl (lv_at hl 2 rfl) ?_
    refine lv_aload_n hx hb dX1_land_32 rfl (lv_at hl 1 rfl) ?_
    refine lv_iconst (v := 2) hx hb dX1_land_33 (by decide) ?_
    have hPc := bk_move hP hix
    refine vp_callSi (W.runV (As := [.int 2]) (rest := [.ref qo, .ref qb]) ⟨hx, hb, hml, hown, hts⟩ (c_X4_trait l dC dI cY (AD (2 + ix)) (AD (9 + ix)) (AD (16 + ix)) (MV ix) 2) (cwV 1 hts gX1_land_X4_trait rfl rfl rfl (by decide +kernel) ⟨Nat.le_of_ble_eq_true rfl, Nat.le_of_ble_eq_true rfl⟩) ⟨blindR, va_recv hK hPc (ci := 4) (q0 := 0) rfl rfl, fun U hU hW => ⟨rfl, rPre_of hPc hK hN U hU hW⟩⟩ rfl rfl hl.1 rfl (lv_room (Nat.le_of_ble_eq_true rfl)) dX1_land_34 ⟨Nat.zero_le _, Nat.zero_le _⟩) (fun r_9 hw => ?_)
    subst hw
    have hPc := hP.sub (ws' := [(qo, .inr (2, figL z_8))]) [1] rfl
    have hDc := hD.sub (ws' := [(qo, .inr (2, figL z_8))]) [1] (by decide) rfl
    have hFc := va_free (wc := [(qo, .inr (2, figL z_8))]) hD hS hA [1] rfl
    refine va_calli (va_runV (As := [.int (X4_trait_r (MV ix) 2)]) (rest := [.ref qb]) ⟨hx, hb, hml, hown, hts⟩ (c_X2_goBack l dC dI cY qo z_8 (X4_trait_r (MV ix) 2) H.size) (cwV 1 hts gX1_land_X2_goBack rfl rfl rfl (by decide +kernel) ⟨Nat.le_of_ble_eq_true rfl, Nat.le_of_ble_eq_true rfl⟩) ⟨blindW, va_recv hK hPc (ci := 2) (q0 := 0) rfl rfl, fun U hU hW => ⟨rfl, wPre_of hPc hK hN hDc U hU hW⟩⟩ rfl rfl hl.1 rfl (lv_room (Nat.le_of_ble_eq_true rfl)) dX1_land_37 ⟨Nat.zero_le _, Nat.zero_le _⟩) hS (fun q _ h => hFc q h) hFc (fun r_10 u t H1 locs ht hvm hw hB hz1 hk1 hS1 => ?_)
    subst hw
    have hJ := wJoinQ (wr := [(qb, .inr (2, figL z_3))]) (w1 := [(qo, .inr (2, figL (X2_goBack_w0 z_8 (X4_trait_r (MV ix) 2))))]) (wn := [(qb, .inr (2, figL z_3)), (qo, .inr (2, figL (X2_goBack_w0 z_8 (X4_trait_r (MV ix) 2))))]) hP hD [1] [0] rfl rfl (by decide) (by decide) hk1 hFc hB ht [0, 1] rfl (by decide)
    clear hB hk1 hFc hPc hDc hP hD hS hz1 hvm ht t
    obtain ⟨hP1, hD1⟩ := hJ
    generalize H1 = H at hP1 hS1 ⊢
    have hP : va_P (dC, dI) vwCl ([(qb, .inr (2, figL z_3)), (qo, .inr (2, figL (X2_goBack_w0 z_8 (X4_trait_r (MV ix) 2))))] ++ bkM AD cY MV) H := hP1
    have hD : va_D A ([(qb, .inr (2, figL z_3)), (qo, .inr (2, figL (X2_goBack_w0 z_8 (X4_trait_r (MV ix) 2))))] ++ bkM AD cY MV) := hD1
    have hS := hS1
    clear hP1 hD1 hS1
    obtain ⟨z_11, ez_11⟩ : ∃ z, z = (X2_goBack_w0 z_8 (X4_trait_r (MV ix) 2)) := ⟨_, rfl⟩
    rw [← ez_11] at hP hD
    have hPc := hP.sub (ws' := [(qb, .inr (2, figL z_3))]) [0] rfl
    have hDc := hD.sub (ws' := [(qb, .inr (2, figL z_3))]) [0] (by decide) rfl
    have hFc := va_free (wc := [(qb, .inr (2, figL z_3))]) hD hS hA [0] rfl
    refine va_calli (va_runV (As := [.int (X2_goBack_r z_8 (X4_trait_r (MV ix) 2))]) (rest := []) ⟨hx, hb, hml, hown, hts⟩ (c_X2_goBack l dC dI cY qb z_3 (X2_goBack_r z_8 (X4_trait_r (MV ix) 2)) H.size) (cwV 1 hts gX1_land_X2_goBack rfl rfl rfl (by decide +kernel) ⟨Nat.le_of_ble_eq_true rfl, Nat.le_of_ble_eq_true rfl⟩) ⟨blindW, va_recv hK hPc (ci := 2) (q0 := 0) rfl rfl, fun U hU hW => ⟨rfl, wPre_of hPc hK hN hDc U hU hW⟩⟩ rfl rfl hl.1 rfl (lv_room (Nat.le_of_ble_eq_true rfl)) dX1_land_40 ⟨Nat.zero_le _, Nat.zero_le _⟩) hS (fun q _ h => hFc q h) hFc (fun r_12 u t H1 locs ht hvm hw hB hz1 hk1 hS1 => ?_)
    subst hw
    have hJ := wJoinQ (wr := [(qo, .inr (2, figL z_11))]) (w1 := [(qb, .inr (2, figL (X2_goBack_w0 z_3 (X2_goBack_r z_8 (X4_trait_r (MV ix) 2)))))]) (wn := [(qb, .inr (2, figL (X2_goBack_w0 z_3 (X2_goBack_r z_8 (X4_trait_r (MV ix) 2))))), (qo, .inr (2, figL z_11))]) hP hD [0] [1] rfl rfl (by decide) (by decide) hk1 hFc hB ht [1, 0] rfl (by decide)
    clear hB hk1 hFc hPc hDc hP hD hS hz1 hvm ht t
    obtain ⟨hP1, hD1⟩ := hJ
    generalize H1 = H at hP1 hS1 ⊢
    have hP : va_P (dC, dI) vwCl ([(qb, .inr (2, figL (X2_goBack_w0 z_3 (X2_goBack_r z_8 (X4_trait_r (MV ix) 2))))), (qo, .inr (2, figL z_11))] ++ bkM AD cY MV) H := hP1
    have hD : va_D A ([(qb, .inr (2, figL (X2_goBack_w0 z_3 (X2_goBack_r z_8 (X4_trait_r (MV ix) 2))))), (qo, .inr (2, figL z_11))] ++ bkM AD cY MV) := hD1
    have hS := hS1
    clear hP1 hD1 hS1
    obtain ⟨z_13, ez_13⟩ : ∃ z, z = (X2_goBack_w0 z_3 (X2_goBack_r z_8 (X4_trait_r (MV ix) 2))) := ⟨_, rfl⟩
    rw [← ez_13] at hP hD
    refine lv_pop hx hb dX1_land_43 rfl ?_
    have eo_14 : (X1_land_w0 F G MV ix) = z_13 := by rw [X1_land_w0]; (try simp only [← ez_3, ← ez_8, ← ez_11, ← ez_13])
    have eo_15 : (X1_land_w1 G MV ix) = z_11 := by rw [X1_land_w1]; (try simp only [← ez_3, ← ez_8, ← ez_11, ← ez_13])
    have hP9 : va_P (dC, dI) vwCl ([(qb, .inr (2, figL (X1_land_w0 F G MV ix))), (qo, .inr (2, figL (X1_land_w1 G MV ix)))] ++ bkM AD cY MV) H := by simp only [eo_14, eo_15]; exact hP
    have hD9 : va_D A ([(qb, .inr (2, figL (X1_land_w0 F G MV ix))), (qo, .inr (2, figL (X1_land_w1 G MV ix)))] ++ bkM AD cY MV) := by simp only [eo_14, eo_15]; exact hD
    exact W.vret hx hb hr (fun t ht hW => ⟨⟨(), rfl, trivial, wPost_of hP9 hD9 ht⟩, hS.F ht⟩) hS.2.2 dX1_land_44
  · intro jn_7
    refine lv_if_eq (tgt := 25) hx hb dX1_land_14 (by decide) (fun c_6 => ?_) (fun c_6 => ?_)
    · refine lv_aload_n hx hb dX1_land_25 rfl (lv_at hl 2 rfl) ?_
      refine lv_aload_n hx hb dX1_land_26 rfl (lv_at hl 1 rfl) ?_
      have hPc := hP.part (cx := [(qo, .inr (2, figL G))]) [1] rfl
      have hDc := hD.part (cx := [(qo, .inr (2, figL G))]) [1] (by decide) rfl
      have hFc := va_freeP (cx := [(qo, .inr (2, figL G))]) (pl := bkM AD cY MV) hD hS hA [1] rfl
      refine va_callv (va_runV (As := [.ref (AD (2 + ix))]) (rest := []) ⟨hx, hb, hml, hown, hts⟩ (c_X2_suffer l dC dI cY qo G AD MV ix hix H.size) (cwV 1 hts gX1_land_X2_suffer rfl rfl rfl (by decide +kernel) ⟨Nat.le_of_ble_eq_true rfl, Nat.le_of_ble_eq_true rfl⟩) ⟨blindW, va_recv hK hPc (ci := 2) (q0 := 0) rfl rfl, fun U hU hW => ⟨rfl, wPre_of hPc hK hN hDc U hU hW⟩⟩ rfl rfl hl.1 rfl (lv_room (Nat.le_of_ble_eq_true rfl)) dX1_land_27 ⟨Nat.zero_le _, Nat.zero_le _⟩) hS (fun q _ h => hFc q h) hFc (fun u t H1 locs ht hvm hw hB hz1 hk1 hS1 => ?_)
      have hJ := wJoinP (wr := [(qb, .inr (2, figL z_3))]) (rx := [(qo, .inr (2, figL (X2_suffer_w0 G MV ix)))]) (wn := [(qb, .inr (2, figL z_3)), (qo, .inr (2, figL (X2_suffer_w0 G MV ix)))]) hP hD [1] [0] rfl rfl (by decide) (by decide) hk1 hFc hB ht [0, 1] rfl (by decide)
      clear hB hk1 hFc hPc hDc hP hD hS hz1 hvm ht t
      obtain ⟨hP1, hD1⟩ := hJ
      generalize H1 = H at hP1 hS1 ⊢
      have hP : va_P (dC, dI) vwCl ([(qb, .inr (2, figL z_3)), (qo, .inr (2, figL (X2_suffer_w0 G MV ix)))] ++ bkM AD cY MV) H := hP1
      have hD : va_D A ([(qb, .inr (2, figL z_3)), (qo, .inr (2, figL (X2_suffer_w0 G MV ix)))] ++ bkM AD cY MV) := hD1
      have hS := hS1
      clear hP1 hD1 hS1
      obtain ⟨z_17, ez_17⟩ : ∃ z, z = (X2_suffer_w0 G MV ix) := ⟨_, rfl⟩
      rw [← ez_17] at hP hD
      have e_18 : (X1_land_j30 G MV ix) = z_17 := by rw [X1_land_j30]; simp only [← ez_3, ← ez_17, eq_true c_6, ↓reduceIte]
      exact jn_7 _ _ _ (by (try simp only [e_18, ← ez_17]); exact hP) (by (try simp only [e_18, ← ez_17]); exact hD) hS (by (try simp only [e_18, ← ez_17]); exact (lv_sub hl [0, 1, 2] rfl))
    · refine lv_aload_n hx hb dX1_land_17 rfl (lv_at hl 2 rfl) ?_
      refine lv_aload_n hx hb dX1_land_18 rfl (lv_at hl 1 rfl) ?_
      have hPc := hP.part (cx := [(qo, .inr (2, figL G))]) [1] rfl
      have hDc := hD.part (cx := [(qo, .inr (2, figL G))]) [1] (by decide) rfl
      have hFc := va_freeP (cx := [(qo, .inr (2, figL G))]) (pl := bkM AD cY MV) hD hS hA [1] rfl
      refine va_callv (va_runV (As := [.ref (AD (2 + ix))]) (rest := []) ⟨hx, hb, hml, hown, hts⟩ (c_X2_block l dC dI cY qo G AD MV ix hix H.size) (cwV 1 hts gX1_land_X2_block rfl rfl rfl (by decide +kernel) ⟨Nat.le_of_ble_eq_true rfl, Nat.le_of_ble_eq_true rfl⟩) ⟨blindW, va_recv hK hPc (ci := 2) (q0 := 0) rfl rfl, fun U hU hW => ⟨rfl, wPre_of hPc hK hN hDc U hU hW⟩⟩ rfl rfl hl.1 rfl (lv_room (Nat.le_of_ble_eq_true rfl)) dX1_land_19 ⟨Nat.zero_le _, Nat.zero_le _⟩) hS (fun q _ h => hFc q h) hFc (fun u t H1 locs ht hvm hw hB hz1 hk1 hS1 => ?_)
      have hJ := wJoinP (wr := [(qb, .inr (2, figL z_3))]) (rx := [(qo, .inr (2, figL (X2_block_w0 G MV ix)))]) (wn := [(qb, .inr (2, figL z_3)), (qo, .inr (2, figL (X2_block_w0 G MV ix)))]) hP hD [1] [0] rfl rfl (by decide) (by decide) hk1 hFc hB ht [0, 1] rfl (by decide)
      clear hB hk1 hFc hPc hDc hP hD hS hz1 hvm ht t
      obtain ⟨hP1, hD1⟩ := hJ
      generalize H1 = H at hP1 hS1 ⊢
      have hP : va_P (dC, dI) vwCl ([(qb, .inr (2, figL z_3)), (qo, .inr (2, figL (X2_block_w0 G MV ix)))] ++ bkM AD cY MV) H := hP1
      have hD : va_D A ([(qb, .inr (2, figL z_3)), (qo, .inr (2, figL (X2_block_w0 G MV ix)))] ++ bkM AD cY MV) := hD1
      have hS := hS1
      clear hP1 hD1 hS1
      obtain ⟨z_20, ez_20⟩ : ∃ z, z = (X2_block_w0 G MV ix) := ⟨_, rfl⟩
      rw [← ez_20] at hP hD
      refine lv_goto (tgt := 30) hx hb dX1_land_22 (by decide) ?_
      have e_21 : (X1_land_j30 G MV ix) = z_20 := by rw [X1_land_j30]; simp only [← ez_3, ← ez_20, eq_false c_6, ↓reduceIte]
      exact jn_7 _ _ _ (by (try simp only [e_21, ← ez_20]); exact hP) (by (try simp only [e_21, ← ez_20]); exact hD) hS (by (try simp only [e_21, ← ez_20]); exact (lv_sub hl [0, 1, 2] rfl))
theorem inw_X1_strike_X1 : ∀ w ∈ u_ws RX1 TX1 3, w ∈ wsX1_strike := fun _ h => List.mem_cons_of_mem _ (List.mem_append_left _ (List.mem_append_left _ (List.mem_append_left _ (List.mem_append_right _ h))))
theorem inw_X1_strike_X2 : ∀ w ∈ u_ws RX2 TX2 16, w ∈ wsX1_strike := fun _ h => List.mem_cons_of_mem _ (List.mem_append_left _ (List.mem_append_left _ (List.mem_append_right _ h)))
theorem inw_X1_strike_X4 : ∀ w ∈ u_ws RX4 TX4 8, w ∈ wsX1_strike := fun _ h => List.mem_cons_of_mem _ (List.mem_append_left _ (List.mem_append_right _ h))
def X1_strike_w1 (F : Nat → Int32) (G : Nat → Int32) (MV : Nat → Nat → Int32) : Nat → Int32 := (if (X1_reachesL_r F G (MV (mi (F 5)))) = 0 then (if (X1_reachesR_r F G (MV (mi (G 5)))) = 0 then (X2_rememberAheadOfHits_w0 F) else (X1_land_w1 (X2_rememberAheadOfHits_w0 F) MV (mi (G 5)))) else (if (X1_reachesR_r F G (MV (mi (G 5)))) = 0 then (X1_land_w0 (X2_rememberAheadOfHits_w0 F) (X2_rememberAheadOfHits_w0 G) MV (mi (F 5))) else (if ((MV (mi (F 5))) 4) = 3 then (if ((MV (mi (G 5))) 4) = 3 then (X1_part_w1 F) else (X1_land_w1 (X1_land_w0 (X2_rememberAheadOfHits_w0 F) (X2_rememberAheadOfHits_w0 G) MV (mi (F 5))) MV (mi (G 5)))) else (X1_land_w1 (X1_land_w0 (X2_rememberAheadOfHits_w0 F) (X2_rememberAheadOfHits_w0 G) MV (mi (F 5))) MV (mi (G 5))))))
def X1_strike_w2 (F : Nat → Int32) (G : Nat → Int32) (MV : Nat → Nat → Int32) : Nat → Int32 := (if (X1_reachesL_r F G (MV (mi (F 5)))) = 0 then (if (X1_reachesR_r F G (MV (mi (G 5)))) = 0 then (X2_rememberAheadOfHits_w0 G) else (X1_land_w0 (X2_rememberAheadOfHits_w0 G) (X2_rememberAheadOfHits_w0 F) MV (mi (G 5)))) else (if (X1_reachesR_r F G (MV (mi (G 5)))) = 0 then (X1_land_w1 (X2_rememberAheadOfHits_w0 G) MV (mi (F 5))) else (if ((MV (mi (F 5))) 4) = 3 then (if ((MV (mi (G 5))) 4) = 3 then (X1_part_w2 G) else (X1_land_w0 (X1_land_w1 (X2_rememberAheadOfHits_w0 G) MV (mi (F 5))) (X1_land_w0 (X2_rememberAheadOfHits_w0 F) (X2_rememberAheadOfHits_w0 G) MV (mi (F 5))) MV (mi (G 5)))) else (X1_land_w0 (X1_land_w1 (X2_rememberAheadOfHits_w0 G) MV (mi (F 5))) (X1_land_w0 (X2_rememberAheadOfHits_w0 F) (X2_rememberAheadOfHits_w0 G) MV (mi (F 5))) MV (mi (G 5))))))
set_option maxHeartbeats 4000000 in
set_option maxRecDepth 100000 in
theorem c_X1_strike (l : Launch) (dC : Nat → ClassId) (dI : Nat → Nat → Nat) (cY : Nat → ClassId) (qd : Nat) (ql : Nat) (qr : Nat) (F : Nat → Int32) (G : Nat → Int32) (AD : Nat → Nat) (cnt : Int32) (MV : Nat → Nat → Int32)  (sz : Nat) : Met l yX1_strike wsX1_strike ({ frames := 3, cells := 0, slots := 0, locals := 68 } : Room) (va_Pc [.ref qd] (wPre (dC, dI) (tyL cY) ([(qd, .inr (1, [.ref (AD 0), .ref ql, .ref qr])), (ql, .inr (2, figL F)), (qr, .inr (2, figL G)), (AD 0, .inr (5, [.int cnt, .ref (AD 1), .ref (AD 8)])), (AD 1, .inl (cY 2, 6, .inr (.inr (.inr (.inr (fun j => some (AD (2 + j))))))))] ++ bkM AD cY MV) sz)) (va_Qv (fun _ : Unit => True) (wPost (dC, dI) ([(qd, .inr (1, [.ref (AD 0), .ref ql, .ref qr])), (ql, .inr (2, figL (X1_strike_w1 F G MV))), (qr, .inr (2, figL (X1_strike_w2 F G MV))), (AD 0, .inr (5, [.int cnt, .ref (AD 1), .ref (AD 8)])), (AD 1, .inl (cY 2, 6, .inr (.inr (.inr (.inr (fun j => some (AD (2 + j))))))))] ++ bkM AD cY MV) (va_A ([(qd, .inr (1, [.ref (AD 0), .ref ql, .ref qr])), (ql, .inr (2, figL F)), (qr, .inr (2, figL G)), (AD 0, .inr (5, [.int cnt, .ref (AD 1), .ref (AD 8)])), (AD 1, .inl (cY 2, 6, .inr (.inr (.inr (.inr (fun j => some (AD (2 + j))))))))] ++ bkM AD cY MV) sz)) (va_A ([(qd, .inr (1, [.ref (AD 0), .ref ql, .ref qr])), (ql, .inr (2, figL F)), (qr, .inr (2, figL G)), (AD 0, .inr (5, [.int cnt, .ref (AD 1), .ref (AD 8)])), (AD 1, .inl (cY 2, 6, .inr (.inr (.inr (.inr (fun j => some (AD (2 + j))))))))] ++ bkM AD cY MV) sz)) 0 0 (va_A ([(qd, .inr (1, [.ref (AD 0), .ref ql, .ref qr])), (ql, .inr (2, figL F)), (qr, .inr (2, figL G)), (AD 0, .inr (5, [.int cnt, .ref (AD 1), .ref (AD 8)])), (AD 1, .inl (cY 2, 6, .inr (.inr (.inr (.inr (fun j => some (AD (2 + j))))))))] ++ bkM AD cY MV) sz) := by
  refine Met.ofW (cc := cX1_strike) (maxL := 5) (ret := none) (by decide) rfl ?_
  intro p e s m args below meth c s₁ B hml hv
  obtain ⟨rfl, hsz, hP, hK, hN, hD0⟩ := hv
  have hx := B.exec
  have hb := B.bytes
  have hr := B.returns
  have hts := atoms_spec (ws := wsX1_strike) B.pre
  have hown : s.vm.findClass RX1 = some m.cls := findClass_of_methodNamed B.named
  have hlocks := B.notSynchronized
  subst hsz
  have hD := hD0.self (sz := s.heap.size)
  generalize hAe : va_A ([(qd, .inr (1, [.ref (AD 0), .ref ql, .ref qr])), (ql, .inr (2, figL F)), (qr, .inr (2, figL G)), (AD 0, .inr (5, [.int cnt, .ref (AD 1), .ref (AD 8)])), (AD 1, .inl (cY 2, 6, .inr (.inr (.inr (.inr (fun j => some (AD (2 + j))))))))] ++ bkM AD cY MV) s.heap.size = A at hD ⊢
  have hA : ∀ q : Nat, s.heap.size ≤ q → A q := fun q h => by rw [← hAe]; exact Or.inr h
  have hS : va_S A s.heap s.heap [] := va_S.rf
  have hP : va_P (dC, dI) vwCl ([(qd, .inr (1, [.ref (AD 0), .ref ql, .ref qr])), (ql, .inr (2, figL F)), (qr, .inr (2, figL G)), (AD 0, .inr (5, [.int cnt, .ref (AD 1), .ref (AD 8)])), (AD 1, .inl (cY 2, 6, .inr (.inr (.inr (.inr (fun j => some (AD (2 + j))))))))] ++ bkM AD cY MV) s.heap := hP
  have hl := lv_entry ([.ref qd]) (n := 5) (Nat.le_of_ble_eq_true rfl)
  rw [lg_entry_eq]
  generalize (lg_sl ([.ref qd]) ++ List.replicate (5 - (lg_sl ([.ref qd])).length) Slot.unset).toArray = ls at hl ⊢
  have hl : lv_has ls 5 [(0, .ref qd)] := hl
  refine lv_aload_n hx hb dX1_strike_0 rfl (lv_at hl 0 rfl) ?_
  refine va_get (D := (dC, dI)) (ci := 1) (v := .ref (AD 0)) (C := RX1) (T := TX1) (N := 3) hx hb hts inw_X1_strike_X1 hown hK hP 0 rfl rfl 0 (by decide) (hts (.fieldLink RX1 23 "DuelFrames$Duel" "moves" "LDuelFrames$MoveList;") (List.mem_of_getElem? (i := 1) rfl)) (fun _ h9 => h9) rfl dX1_strike_1 ?_
  refine lv_aload_n hx hb dX1_strike_4 rfl (lv_at hl 0 rfl) ?_
  refine va_get (D := (dC, dI)) (ci := 1) (v := .ref ql) (C := RX1) (T := TX1) (N := 3) hx hb hts inw_X1_strike_X1 hown hK hP 0 rfl rfl 1 (by decide) (hts (.fieldLink RX1 14 "DuelFrames$Duel" "left" "LDuelFrames$Figure;") (List.mem_of_getElem? (i := 2) rfl)) (fun _ h9 => h9) rfl dX1_strike_5 ?_
  refine va_get (D := (dC, dI)) (ci := 2) (v := .int (F 5)) (C := RX2) (T := TX2) (N := 16) hx hb hts inw_X1_strike_X2 hown hK hP 1 rfl rfl 5 (by decide) (hts (.fieldLink RX1 70 "DuelFrames$Figure" "move" "I") (List.mem_of_getElem? (i := 3) rfl)) (fun _ h9 => h9) rfl dX1_strike_8 ?_
  have hPc := hP.sub (ws' := [(AD 0, .inr (5, [.int cnt, .ref (AD 1), .ref (AD 8)])), (AD 1, .inl (cY 2, 6, .inr (.inr (.inr (.inr (fun j => some (AD (2 + j))))))))]) [3, 4] rfl
  refine va_csr (W.runV (As := [.int (F 5)]) (rest := []) ⟨hx, hb, hml, hown, hts⟩ (c_X5_at l dC dI cY AD cnt (F 5)) (cwV 1 hts gX1_strike_X5_at rfl rfl rfl (by decide +kernel) ⟨Nat.le_of_ble_eq_true rfl, Nat.le_of_ble_eq_true rfl⟩) ⟨blindR, va_recv hK hPc (ci := 5) (q0 := 0) rfl rfl, fun U hU hW => ⟨rfl, rPre_of hPc hK hN U hU hW⟩⟩ rfl rfl hl.1 rfl (lv_room (Nat.le_of_ble_eq_true rfl)) dX1_strike_11 ⟨Nat.zero_le _, Nat.zero_le _⟩) (fun r hw => ?_)
  subst hw
  refine lv_astore_n (lv' := [(1, .ref (AD (2 + (mi (F 5))))), (0, .ref qd)]) hx hb dX1_strike_14 rfl hl (by decide) rfl (fun ls hl => ?_)
  refine lv_aload_n hx hb dX1_strike_15 rfl (lv_at hl 1 rfl) ?_
  refine va_get (D := (dC, dI)) (ci := 1) (v := .ref (AD 0)) (C := RX1) (T := TX1) (N := 3) hx hb hts inw_X1_strike_X1 hown hK hP 0 rfl rfl 0 (by decide) (hts (.fieldLink RX1 23 "DuelFrames$Duel" "moves" "LDuelFrames$MoveList;") (List.mem_of_getElem? (i := 1) rfl)) (fun _ h9 => h9) rfl dX1_strike_16 ?_
  refine lv_aload_n hx hb dX1_strike_19 rfl (lv_at hl 1 rfl) ?_
  refine va_get (D := (dC, dI)) (ci := 1) (v := .ref qr) (C := RX1) (T := TX1) (N := 3) hx hb hts inw_X1_strike_X1 hown hK hP 0 rfl rfl 2 (by decide) (hts (.fieldLink RX1 20 "DuelFrames$Duel" "right" "LDuelFrames$Figure;") (List.mem_of_getElem? (i := 4) rfl)) (fun _ h9 => h9) rfl dX1_strike_20 ?_
  refine va_get (D := (dC, dI)) (ci := 2) (v := .int (G 5)) (C := RX2) (T := TX2) (N := 16) hx hb hts inw_X1_strike_X2 hown hK hP 2 rfl rfl 5 (by decide) (hts (.fieldLink RX1 70 "DuelFrames$Figure" "move" "I") (List.mem_of_getElem? (i := 3) rfl)) (fun _ h9 => h9) rfl dX1_strike_23 ?_
  have hPc := hP.sub (ws' := [(AD 0, .inr (5, [.int cnt, .ref (AD 1), .ref (AD 8)])), (AD 1, .inl (cY 2, 6, .inr (.inr (.inr (.inr (fun j => some (AD (2 + j))))))))]) [3, 4] rfl
  refine va_csr (W.runV (As := [.int (G 5)]) (rest := []) ⟨hx, hb, hml, hown, hts⟩ (c_X5_at l dC dI cY AD cnt (G 5)) (cwV 1 hts gX1_strike_X5_at rfl rfl rfl (by decide +kernel) ⟨Nat.le_of_ble_eq_true rfl, Nat.le_of_ble_eq_true rfl⟩) ⟨blindR, va_recv hK hPc (ci := 5) (q0 := 0) rfl rfl, fun U hU hW => ⟨rfl, rPre_of hPc hK hN U hU hW⟩⟩ rfl rfl hl.1 rfl (lv_room (Nat.le_of_ble_eq_true rfl)) dX1_strike_26 ⟨Nat.zero_le _, Nat.zero_le _⟩) (fun r hw => ?_)
  subst hw
  refine lv_astore_n (lv' := [(2, .ref (AD (2 + (mi (G 5))))), (1, .ref (AD (2 + (mi (F 5))))), (0, .ref qd)]) hx hb dX1_strike_29 rfl hl (by decide) rfl (fun ls hl => ?_)
  refine lv_aload_n hx hb dX1_strike_30 rfl (lv_at hl 2 rfl) ?_
  refine lv_aload_n hx hb dX1_strike_31 rfl (lv_at hl 2 rfl) ?_
  refine va_get (D := (dC, dI)) (ci := 1) (v := .ref ql) (C := RX1) (T := TX1) (N := 3) hx hb hts inw_X1_strike_X1 hown hK hP 0 rfl rfl 1 (by decide) (hts (.fieldLink RX1 14 "DuelFrames$Duel" "left" "LDuelFrames$Figure;") (List.mem_of_getElem? (i := 2) rfl)) (fun _ h9 => h9) rfl dX1_strike_32 ?_
  refine lv_aload_n hx hb dX1_strike_35 rfl (lv_at hl 1 rfl) ?_
  refine lv_aload_n hx hb dX1_strike_36 rfl (lv_at hl 2 rfl) ?_
  refine va_get (D := (dC, dI)) (ci := 1) (v := .ref qr) (C := RX1) (T := TX1) (N := 3) hx hb hts inw_X1_strike_X1 hown hK hP 0 rfl rfl 2 (by decide) (hts (.fieldLink RX1 20 "DuelFrames$Duel" "right" "LDuelFrames$Figure;") (List.mem_of_getElem? (i := 4) rfl)) (fun _ h9 => h9) rfl dX1_strike_37 ?_
  have hPc : va_P (dC, dI) vwCl [(qd, .inr (1, [.ref (AD 0), .ref ql, .ref qr])), (ql, .inr (2, figL F)), (qr, .inr (2, figL G)), (AD (2 + (mi (F 5))), .inr (4, [.int ((MV (mi (F 5))) 0), .int ((MV (mi (F 5))) 1), .int ((MV (mi (F 5))) 2), .int ((MV (mi (F 5))) 3), .int ((MV (mi (F 5))) 4), .int ((MV (mi (F 5))) 5), .ref (AD (9 + (mi (F 5)))), .ref (AD (16 + (mi (F 5))))])), (AD (9 + (mi (F 5))), .inl (cY 0, 5, .inl (fun k => (MV (mi (F 5))) (6 + k)))), (AD (16 + (mi (F 5))), .inl (cY 1, 6, .inl (fun k => (MV (mi (F 5))) (11 + k))))] s.heap := (hP.sub (ws' := [(qd, .inr (1, [.ref (AD 0), .ref ql, .ref qr])), (ql, .inr (2, figL F)), (qr, .inr (2, figL G))]) [0, 1, 2] rfl).app (bk_move hP (mi_lt (F 5)))
  refine vp_callSi (W.runV (As := [.ref ql, .ref (AD (2 + (mi (F 5)))), .ref qr]) (rest := []) ⟨hx, hb, hml, hown, hts⟩ (c_X1_reachesL l dC dI cY qd (AD 0) ql qr F G (AD (2 + (mi (F 5)))) (AD (9 + (mi (F 5)))) (AD (16 + (mi (F 5)))) (MV (mi (F 5)))) (cwV 3 hts gX1_strike_X1_reaches rfl rfl rfl (by decide +kernel) ⟨Nat.le_of_ble_eq_true rfl, Nat.le_of_ble_eq_true rfl⟩) ⟨blindR, va_recv hK hPc (ci := 1) (q0 := 0) rfl rfl, fun U hU hW => ⟨rfl, rPre_of hPc hK hN U hU hW⟩⟩ rfl rfl hl.1 rfl (lv_room (Nat.le_of_ble_eq_true rfl)) dX1_strike_40 ⟨Nat.zero_le _, Nat.zero_le _⟩) (fun r_1 hw => ?_)
  obtain ⟨hw, hb_2⟩ := hw
  subst hw
  refine lv_istore_n (lv' := [(3, .int (X1_reachesL_r F G (MV (mi (F 5))))), (2, .ref (AD (2 + (mi (G 5))))), (1, .ref (AD (2 + (mi (F 5))))), (0, .ref qd)]) hx hb dX1_strike_43 rfl hl (by decide) rfl (fun ls hl => ?_)
  refine lv_aload_n hx hb dX1_strike_44 rfl (lv_at hl 3 rfl) ?_
  refine lv_aload_n hx hb dX1_strike_45 rfl (lv_at hl 3 rfl) ?_
  refine va_get (D := (dC, dI)) (ci := 1) (v := .ref qr) (C := RX1) (T := TX1) (N := 3) hx hb hts inw_X1_strike_X1 hown hK hP 0 rfl rfl 2 (by decide) (hts (.fieldLink RX1 20 "DuelFrames$Duel" "right" "LDuelFrames$Figure;") (List.mem_of_getElem? (i := 4) rfl)) (fun _ h9 => h9) rfl dX1_strike_46 ?_
  refine lv_aload_n hx hb dX1_strike_49 rfl (lv_at hl 1 rfl) ?_
  refine lv_aload_n hx hb dX1_strike_50 rfl (lv_at hl 3 rfl) ?_
  refine va_get (D := (dC, dI)) (ci := 1) (v := .ref ql) (C := RX1) (T := TX1) (N := 3) hx hb hts inw_X1_strike_X1 hown hK hP 0 rfl rfl 1 (by decide) (hts (.fieldLink RX1 14 "DuelFrames$Duel" "left" "LDuelFrames$Figure;") (List.mem_of_getElem? (i := 2) rfl)) (fun _ h9 => h9) rfl dX1_strike_51 ?_
  have hPc : va_P (dC, dI) vwCl [(qd, .inr (1, [.ref (AD 0), .ref ql, .ref qr])), (ql, .inr (2, figL F)), (qr, .inr (2, figL G)), (AD (2 + (mi (G 5))), .inr (4, [.int ((MV (mi (G 5))) 0), .int ((MV (mi (G 5))) 1), .int ((MV (mi (G 5))) 2), .int ((MV (mi (G 5))) 3), .int ((MV (mi (G 5))) 4), .int ((MV (mi (G 5))) 5), .ref (AD (9 + (mi (G 5)))), .ref (AD (16 + (mi (G 5))))])), (AD (9 + (mi (G 5))), .inl (cY 0, 5, .inl (fun k => (MV (mi (G 5))) (6 + k)))), (AD (16 + (mi (G 5))), .inl (cY 1, 6, .inl (fun k => (MV (mi (G 5))) (11 + k))))] s.heap := (hP.sub (ws' := [(qd, .inr (1, [.ref (AD 0), .ref ql, .ref qr])), (ql, .inr (2, figL F)), (qr, .inr (2, figL G))]) [0, 1, 2] rfl).app (bk_move hP (mi_lt (G 5)))
  refine vp_callSi (W.runV (As := [.ref qr, .ref (AD (2 + (mi (G 5)))), .ref ql]) (rest := []) ⟨hx, hb, hml, hown, hts⟩ (c_X1_reachesR l dC dI cY qd (AD 0) ql qr F G (AD (2 + (mi (G 5)))) (AD (9 + (mi (G 5)))) (AD (16 + (mi (G 5)))) (MV (mi (G 5)))) (cwV 3 hts gX1_strike_X1_reaches rfl rfl rfl (by decide +kernel) ⟨Nat.le_of_ble_eq_true rfl, Nat.le_of_ble_eq_true rfl⟩) ⟨blindR, va_recv hK hPc (ci := 1) (q0 := 0) rfl rfl, fun U hU hW => ⟨rfl, rPre_of hPc hK hN U hU hW⟩⟩ rfl rfl hl.1 rfl (lv_room (Nat.le_of_ble_eq_true rfl)) dX1_strike_54 ⟨Nat.zero_le _, Nat.zero_le _⟩) (fun r_3 hw => ?_)
  obtain ⟨hw, hb_4⟩ := hw
  subst hw
  refine lv_istore (lv' := [(4, .int (X1_reachesR_r F G (MV (mi (G 5))))), (3, .int (X1_reachesL_r F G (MV (mi (F 5))))), (2, .ref (AD (2 + (mi (G 5))))), (1, .ref (AD (2 + (mi (F 5))))), (0, .ref qd)]) hx hb dX1_strike_57 hl (by decide) rfl (fun ls hl => ?_)
  refine lv_iload_n hx hb dX1_strike_59 rfl (lv_at hl 1 rfl) ?_
  refine lv_if_eq (tgt := 89) hx hb dX1_strike_60 (by decide) (fun c_5 => ?_) (fun c_5 => ?_)
  · refine lv_aload_n hx hb dX1_strike_89 rfl (lv_at hl 4 rfl) ?_
    refine va_get (D := (dC, dI)) (ci := 1) (v := .ref ql) (C := RX1) (T := TX1) (N := 3) hx hb hts inw_X1_strike_X1 hown hK hP 0 rfl rfl 1 (by decide) (hts (.fieldLink RX1 14 "DuelFrames$Duel" "left" "LDuelFrames$Figure;") (List.mem_of_getElem? (i := 2) rfl)) (fun _ h9 => h9) rfl dX1_strike_90 ?_
    have hPc := hP.sub (ws' := [(ql, .inr (2, figL F))]) [1] rfl
    have hDc := hD.sub (ws' := [(ql, .inr (2, figL F))]) [1] (by decide) rfl
    have hFc := va_free (wc := [(ql, .inr (2, figL F))]) hD hS hA [1] rfl
    refine va_callv (va_runV (As := []) (rest := []) ⟨hx, hb, hml, hown, hts⟩ (c_X2_rememberAheadOfHits l dC dI cY ql F s.heap.size) (cwV 0 hts gX1_strike_X2_rememberAheadOfHits rfl rfl rfl (by decide +kernel) ⟨Nat.le_of_ble_eq_true rfl, Nat.le_of_ble_eq_true rfl⟩) ⟨blindW, va_recv hK hPc (ci := 2) (q0 := 0) rfl rfl, fun U hU hW => ⟨rfl, wPre_of hPc hK hN hDc U hU hW⟩⟩ rfl rfl hl.1 rfl (lv_room (Nat.le_of_ble_eq_true rfl)) dX1_strike_93 ⟨Nat.zero_le _, Nat.zero_le _⟩) hS (fun q _ h => hFc q h) hFc (fun u t H1 locs ht hvm hw hB hz1 hk1 hS1 => ?_)
    have hJ := wJoinQ (wr := [(qd, .inr (1, [.ref (AD 0), .ref ql, .ref qr])), (qr, .inr (2, figL G)), (AD 0, .inr (5, [.int cnt, .ref (AD 1), .ref (AD 8)])), (AD 1, .inl (cY 2, 6, .inr (.inr (.inr (.inr (fun j => some (AD (2 + j))))))))]) (w1 := [(ql, .inr (2, figL (X2_rememberAheadOfHits_w0 F)))]) (wn := [(qd, .inr (1, [.ref (AD 0), .ref ql, .ref qr])), (ql, .inr (2, figL (X2_rememberAheadOfHits_w0 F))), (qr, .inr (2, figL G)), (AD 0, .inr (5, [.int cnt, .ref (AD 1), .ref (AD 8)])), (AD 1, .inl (cY 2, 6, .inr (.inr (.inr (.inr (fun j => some (AD (2 + j))))))))]) hP hD [1] [0, 2, 3, 4] rfl rfl (by decide) (by decide) hk1 hFc hB ht [0, 4, 1, 2, 3] rfl (by decide)
    clear hB hk1 hFc hPc hDc hP hD hS hz1 hvm ht t
    obtain ⟨hP1, hD1⟩ := hJ
    generalize H1 = H at hP1 hS1 ⊢
    have hP : va_P (dC, dI) vwCl ([(qd, .inr (1, [.ref (AD 0), .ref ql, .ref qr])), (ql, .inr (2, figL (X2_rememberAheadOfHits_w0 F))), (qr, .inr (2, figL G)), (AD 0, .inr (5, [.int cnt, .ref (AD 1), .ref (AD 8)])), (AD 1, .inl (cY 2, 6, .inr (.inr (.inr (.inr (fun j => some (AD (2 + j))))))))] ++ bkM AD cY MV) H := hP1
    have hD : va_D A ([(qd, .inr (1, [.ref (AD 0), .ref ql, .ref qr])), (ql, .inr (2, figL (X2_rememberAheadOfHits_w0 F))), (qr, .inr (2, figL G)), (AD 0, .inr (5, [.int cnt, .ref (AD 1), .ref (AD 8)])), (AD 1, .inl (cY 2, 6, .inr (.inr (.inr (.inr (fun j => some (AD (2 + j))))))))] ++ bkM AD cY MV) := hD1
    have hS := hS1
    clear hP1 hD1 hS1
    obtain ⟨z_7, ez_7⟩ : ∃ z, z = (X2_rememberAheadOfHits_w0 F) := ⟨_, rfl⟩
    rw [← ez_7] at hP hD
    refine lv_aload_n hx hb dX1_strike_96 rfl (lv_at hl 4 rfl) ?_
    refine va_get (D := (dC, dI)) (ci := 1) (v := .ref qr) (C := RX1) (T := TX1) (N := 3) hx hb hts inw_X1_strike_X1 hown hK hP 0 rfl rfl 2 (by decide) (hts (.fieldLink RX1 20 "DuelFrames$Duel" "right" "LDuelFrames$Figure;") (List.mem_of_getElem? (i := 4) rfl)) (fun _ h9 => h9) rfl dX1_strike_97 ?_
    have hPc := hP.sub (ws' := [(qr, .inr (2, figL G))]) [2] rfl
    have hDc := hD.sub (ws' := [(qr, .inr (2, figL G))]) [2] (by decide) rfl
    have hFc := va_free (wc := [(qr, .inr (2, figL G))]) hD hS hA [2] rfl
    refine va_callv (va_runV (As := []) (rest := []) ⟨hx, hb, hml, hown, hts⟩ (c_X2_rememberAheadOfHits l dC dI cY qr G H.size) (cwV 0 hts gX1_strike_X2_rememberAheadOfHits rfl rfl rfl (by decide +kernel) ⟨Nat.le_of_ble_eq_true rfl, Nat.le_of_ble_eq_true rfl⟩) ⟨blindW, va_recv hK hPc (ci := 2) (q0 := 0) rfl rfl, fun U hU hW => ⟨rfl, wPre_of hPc hK hN hDc U hU hW⟩⟩ rfl rfl hl.1 rfl (lv_room (Nat.le_of_ble_eq_true rfl)) dX1_strike_100 ⟨Nat.zero_le _, Nat.zero_le _⟩) hS (fun q _ h => hFc q h) hFc (fun u t H1 locs ht hvm hw hB hz1 hk1 hS1 => ?_)
    have hJ := wJoinQ (wr := [(qd, .inr (1, [.ref (AD 0), .ref ql, .ref qr])), (ql, .inr (2, figL z_7)), (AD 0, .inr (5, [.int cnt, .ref (AD 1), .ref (AD 8)])), (AD 1, .inl (cY 2, 6, .inr (.inr (.inr (.inr (fun j => some (AD (2 + j))))))))]) (w1 := [(qr, .inr (2, figL (X2_rememberAheadOfHits_w0 G)))]) (wn := [(qd, .inr (1, [.ref (AD 0), .ref ql, .ref qr])), (ql, .inr (2, figL z_7)), (qr, .inr (2, figL (X2_rememberAheadOfHits_w0 G))), (AD 0, .inr (5, [.int cnt, .ref (AD 1), .ref (AD 8)])), (AD 1, .inl (cY 2, 6, .inr (.inr (.inr (.inr (fun j => some (AD (2 + j))))))))]) hP hD [2] [0, 1, 3, 4] rfl rfl (by decide) (by decide) hk1 hFc hB ht [0, 1, 4, 2, 3] rfl (by decide)
    clear hB hk1 hFc hPc hDc hP hD hS hz1 hvm ht t
    obtain ⟨hP1, hD1⟩ := hJ
    generalize H1 = H at hP1 hS1 ⊢
    have hP : va_P (dC, dI) vwCl ([(qd, .inr (1, [.ref (AD 0), .ref ql, .ref qr])), (ql, .inr (2, figL z_7)), (qr, .inr (2, figL (X2_rememberAheadOfHits_w0 G))), (AD 0, .inr (5, [.int cnt, .ref (AD 1), .ref (AD 8)])), (AD 1, .inl (cY 2, 6, .inr (.inr (.inr (.inr (fun j => some (AD (2 + j))))))))] ++ bkM AD cY MV) H := hP1
    have hD : va_D A ([(qd, .inr (1, [.ref (AD 0), .ref ql, .ref qr])), (ql, .inr (2, figL z_7)), (qr, .inr (2, figL (X2_rememberAheadOfHits_w0 G))), (AD 0, .inr (5, [.int cnt, .ref (AD 1), .ref (AD 8)])), (AD 1, .inl (cY 2, 6, .inr (.inr (.inr (.inr (fun j => some (AD (2 + j))))))))] ++ bkM AD cY MV) := hD1
    have hS := hS1
    clear hP1 hD1 hS1
    obtain ⟨z_9, ez_9⟩ : ∃ z, z = (X2_rememberAheadOfHits_w0 G) := ⟨_, rfl⟩
    rw [← ez_9] at hP hD
    refine lv_iload_n hx hb dX1_strike_103 rfl (lv_at hl 1 rfl) ?_
    refine lv_if_eq (tgt := 119) hx hb dX1_strike_104 (by decide) (fun c_10 => ?_) (fun c_10 => ?_)
    rotate_left
    · exact absurd c_5 c_10
    refine lv_iload hx hb dX1_strike_119 (lv_at hl 0 rfl) ?_
    refine lv_if_eq (tgt := 136) hx hb dX1_strike_121 (by decide) (fun c_11 => ?_) (fun c_11 => ?_)
    · have eo_12 : (X1_strike_w1 F G MV) = z_7 := by rw [X1_strike_w1]; simp only [← ez_7, ← ez_9, eq_true c_5, eq_true c_11, ↓reduceIte]
      have eo_13 : (X1_strike_w2 F G MV) = z_9 := by rw [X1_strike_w2]; simp only [← ez_7, ← ez_9, eq_true c_5, eq_true c_11, ↓reduceIte]
      have hP9 : va_P (dC, dI) vwCl ([(qd, .inr (1, [.ref (AD 0), .ref ql, .ref qr])), (ql, .inr (2, figL (X1_strike_w1 F G MV))), (qr, .inr (2, figL (X1_strike_w2 F G MV))), (AD 0, .inr (5, [.int cnt, .ref (AD 1), .ref (AD 8)])), (AD 1, .inl (cY 2, 6, .inr (.inr (.inr (.inr (fun j => some (AD (2 + j))))))))] ++ bkM AD cY MV) H := by simp only [eo_12, eo_13]; exact hP
      have hD9 : va_D A ([(qd, .inr (1, [.ref (AD 0), .ref ql, .ref qr])), (ql, .inr (2, figL (X1_strike_w1 F G MV))), (qr, .inr (2, figL (X1_strike_w2 F G MV))), (AD 0, .inr (5, [.int cnt, .ref (AD 1), .ref (AD 8)])), (AD 1, .inl (cY 2, 6, .inr (.inr (.inr (.inr (fun j => some (AD (2 + j))))))))] ++ bkM AD cY MV) := by simp only [eo_12, eo_13]; exact hD
      exact W.vret hx hb hr (fun t ht hW => ⟨⟨(), rfl, trivial, wPost_of hP9 hD9 ht⟩, hS.F ht⟩) hS.2.2 dX1_strike_136
    · refine lv_aload_n hx hb dX1_strike_124 rfl (lv_at hl 4 rfl) ?_
      refine va_get (D := (dC, dI)) (ci := 1) (v := .ref qr) (C := RX1) (T := TX1) (N := 3) hx hb hts inw_X1_strike_X1 hown hK hP 0 rfl rfl 2 (by decide) (hts (.fieldLink RX1 20 "DuelFrames$Duel" "right" "LDuelFrames$Figure;") (List.mem_of_getElem? (i := 4) rfl)) (fun _ h9 => h9) rfl dX1_strike_125 ?_
      refine lv_aload_n hx hb dX1_strike_128 rfl (lv_at hl 2 rfl) ?_
      refine lv_aload_n hx hb dX1_strike_129 rfl (lv_at hl 4 rfl) ?_
      refine va_get (D := (dC, dI)) (ci := 1) (v := .ref ql) (C := RX1) (T := TX1) (N := 3) hx hb hts inw_X1_strike_X1 hown hK hP 0 rfl rfl 1 (by decide) (hts (.fieldLink RX1 14 "DuelFrames$Duel" "left" "LDuelFrames$Figure;") (List.mem_of_getElem? (i := 2) rfl)) (fun _ h9 => h9) rfl dX1_strike_130 ?_
      have hPc := hP.part (cx := [(qr, .inr (2, figL z_9)), (ql, .inr (2, figL z_7))]) [2, 1] rfl
      have hDc := hD.part (cx := [(qr, .inr (2, figL z_9)), (ql, .inr (2, figL z_7))]) [2, 1] (by decide) rfl
      have hFc := va_freeP (cx := [(qr, .inr (2, figL z_9)), (ql, .inr (2, figL z_7))]) (pl := bkM AD cY MV) hD hS hA [2, 1] rfl
      refine va_callv (va_runS (As := [.ref qr, .ref (AD (2 + (mi (G 5)))), .ref ql]) (rest := []) ⟨hx, hb, hml, hown, hts⟩ (c_X1_land l dC dI cY qr ql z_9 z_7 AD MV (mi (G 5)) (by (try simp only [ez_9, ez_7]); exact (mi_lt (G 5))) H.size) (va_cwS 3 hts gX1_strike_X1_land rfl rfl rfl (by decide +kernel) ⟨Nat.le_of_ble_eq_true rfl, Nat.le_of_ble_eq_true rfl⟩) ⟨blindW, fun U hU hW => ⟨rfl, wPre_of hPc hK hN hDc U hU hW⟩⟩ rfl rfl hl.1 rfl (lv_room (Nat.le_of_ble_eq_true rfl)) dX1_strike_133 ⟨Nat.zero_le _, Nat.zero_le _⟩) hS (fun q _ h => hFc q h) hFc (fun u t H1 locs ht hvm hw hB hz1 hk1 hS1 => ?_)
      have hJ := wJoinP (wr := [(qd, .inr (1, [.ref (AD 0), .ref ql, .ref qr])), (AD 0, .inr (5, [.int cnt, .ref (AD 1), .ref (AD 8)])), (AD 1, .inl (cY 2, 6, .inr (.inr (.inr (.inr (fun j => some (AD (2 + j))))))))]) (rx := [(qr, .inr (2, figL (X1_land_w0 z_9 z_7 MV (mi (G 5))))), (ql, .inr (2, figL (X1_land_w1 z_7 MV (mi (G 5)))))]) (wn := [(qd, .inr (1, [.ref (AD 0), .ref ql, .ref qr])), (ql, .inr (2, figL (X1_land_w1 z_7 MV (mi (G 5))))), (qr, .inr (2, figL (X1_land_w0 z_9 z_7 MV (mi (G 5))))), (AD 0, .inr (5, [.int cnt, .ref (AD 1), .ref (AD 8)])), (AD 1, .inl (cY 2, 6, .inr (.inr (.inr (.inr (fun j => some (AD (2 + j))))))))]) hP hD [2, 1] [0, 3, 4] rfl rfl (by decide) (by decide) hk1 hFc hB ht [0, 4, 3, 1, 2] rfl (by decide)
      clear hB hk1 hFc hPc hDc hP hD hS hz1 hvm ht t
      obtain ⟨hP1, hD1⟩ := hJ
      generalize H1 = H at hP1 hS1 ⊢
      have hP : va_P (dC, dI) vwCl ([(qd, .inr (1, [.ref (AD 0), .ref ql, .ref qr])), (ql, .inr (2, figL (X1_land_w1 z_7 MV (mi (G 5))))), (qr, .inr (2, figL (X1_land_w0 z_9 z_7 MV (mi (G 5))))), (AD 0, .inr (5, [.int cnt, .ref (AD 1), .ref (AD 8)])), (AD 1, .inl (cY 2, 6, .inr (.inr (.inr (.inr (fun j => some (AD (2 + j))))))))] ++ bkM AD cY MV) H := hP1
      have hD : va_D A ([(qd, .inr (1, [.ref (AD 0), .ref ql, .ref qr])), (ql, .inr (2, figL (X1_land_w1 z_7 MV (mi (G 5))))), (qr, .inr (2, figL (X1_land_w0 z_9 z_7 MV (mi (G 5))))), (AD 0, .inr (5, [.int cnt, .ref (AD 1), .ref (AD 8)])), (AD 1, .inl (cY 2, 6, .inr (.inr (.inr (.inr (fun j => some (AD (2 + j))))))))] ++ bkM AD cY MV) := hD1
      have hS := hS1
      clear hP1 hD1 hS1
      obtain ⟨z_15, ez_15⟩ : ∃ z, z = (X1_land_w1 z_7 MV (mi (G 5))) := ⟨_, rfl⟩
      rw [← ez_15] at hP hD
      obtain ⟨z_16, ez_16⟩ : ∃ z, z = (X1_land_w0 z_9 z_7 MV (mi (G 5))) := ⟨_, rfl⟩
      rw [← ez_16] at hP hD
      have eo_17 : (X1_strike_w1 F G MV) = z_15 := by rw [X1_strike_w1]; simp only [← ez_7, ← ez_9, ← ez_15, ← ez_16, eq_true c_5, eq_false c_11, ↓reduceIte]
      have eo_18 : (X1_strike_w2 F G MV) = z_16 := by rw [X1_strike_w2]; simp only [← ez_7, ← ez_9, ← ez_15, ← ez_16, eq_true c_5, eq_false c_11, ↓reduceIte]
      have hP9 : va_P (dC, dI) vwCl ([(qd, .inr (1, [.ref (AD 0), .ref ql, .ref qr])), (ql, .inr (2, figL (X1_strike_w1 F G MV))), (qr, .inr (2, figL (X1_strike_w2 F G MV))), (AD 0, .inr (5, [.int cnt, .ref (AD 1), .ref (AD 8)])), (AD 1, .inl (cY 2, 6, .inr (.inr (.inr (.inr (fun j => some (AD (2 + j))))))))] ++ bkM AD cY MV) H := by simp only [eo_17, eo_18]; exact hP
      have hD9 : va_D A ([(qd, .inr (1, [.ref (AD 0), .ref ql, .ref qr])), (ql, .inr (2, figL (X1_strike_w1 F G MV))), (qr, .inr (2, figL (X1_strike_w2 F G MV))), (AD 0, .inr (5, [.int cnt, .ref (AD 1), .ref (AD 8)])), (AD 1, .inl (cY 2, 6, .inr (.inr (.inr (.inr (fun j => some (AD (2 + j))))))))] ++ bkM AD cY MV) := by simp only [eo_17, eo_18]; exact hD
      exact W.vret hx hb hr (fun t ht hW => ⟨⟨(), rfl, trivial, wPost_of hP9 hD9 ht⟩, hS.F ht⟩) hS.2.2 dX1_strike_136
  · refine lv_iload hx hb dX1_strike_63 (lv_at hl 0 rfl) ?_
    refine lv_if_eq (tgt := 89) hx hb dX1_strike_65 (by decide) (fun c_19 => ?_) (fun c_19 => ?_)
    · refine lv_aload_n hx hb dX1_strike_89 rfl (lv_at hl 4 rfl) ?_
      refine va_get (D := (dC, dI)) (ci := 1) (v := .ref ql) (C := RX1) (T := TX1) (N := 3) hx hb hts inw_X1_strike_X1 hown hK hP 0 rfl rfl 1 (by decide) (hts (.fieldLink RX1 14 "DuelFrames$Duel" "left" "LDuelFrames$Figure;") (List.mem_of_getElem? (i := 2) rfl)) (fun _ h9 => h9) rfl dX1_strike_90 ?_
      have hPc := hP.sub (ws' := [(ql, .inr (2, figL F))]) [1] rfl
      have hDc := hD.sub (ws' := [(ql, .inr (2, figL F))]) [1] (by decide) rfl
      have hFc := va_free (wc := [(ql, .inr (2, figL F))]) hD hS hA [1] rfl
      refine va_callv (va_runV (As := []) (rest := []) ⟨hx, hb, hml, hown, hts⟩ (c_X2_rememberAheadOfHits l dC dI cY ql F s.heap.size) (cwV 0 hts gX1_strike_X2_rememberAheadOfHits rfl rfl rfl (by decide +kernel) ⟨Nat.le_of_ble_eq_true rfl, Nat.le_of_ble_eq_true rfl⟩) ⟨blindW, va_recv hK hPc (ci := 2) (q0 := 0) rfl rfl, fun U hU hW => ⟨rfl, wPre_of hPc hK hN hDc U hU hW⟩⟩ rfl rfl hl.1 rfl (lv_room (Nat.le_of_ble_eq_true rfl)) dX1_strike_93 ⟨Nat.zero_le _, Nat.zero_le _⟩) hS (fun q _ h => hFc q h) hFc (fun u t H1 locs ht hvm hw hB hz1 hk1 hS1 => ?_)
      have hJ := wJoinQ (wr := [(qd, .inr (1, [.ref (AD 0), .ref ql, .ref qr])), (qr, .inr (2, figL G)), (AD 0, .inr (5, [.int cnt, .ref (AD 1), .ref (AD 8)])), (AD 1, .inl (cY 2, 6, .inr (.inr (.inr (.inr (fun j => some (AD (2 + j))))))))]) (w1 := [(ql, .inr (2, figL (X2_rememberAheadOfHits_w0 F)))]) (wn := [(qd, .inr (1, [.ref (AD 0), .ref ql, .ref qr])), (ql, .inr (2, figL (X2_rememberAheadOfHits_w0 F))), (qr, .inr (2, figL G)), (AD 0, .inr (5, [.int cnt, .ref (AD 1), .ref (AD 8)])), (AD 1, .inl (cY 2, 6, .inr (.inr (.inr (.inr (fun j => some (AD (2 + j))))))))]) hP hD [1] [0, 2, 3, 4] rfl rfl (by decide) (by decide) hk1 hFc hB ht [0, 4, 1, 2, 3] rfl (by decide)
      clear hB hk1 hFc hPc hDc hP hD hS hz1 hvm ht t
      obtain ⟨hP1, hD1⟩ := hJ
      generalize H1 = H at hP1 hS1 ⊢
      have hP : va_P (dC, dI) vwCl ([(qd, .inr (1, [.ref (AD 0), .ref ql, .ref qr])), (ql, .inr (2, figL (X2_rememberAheadOfHits_w0 F))), (qr, .inr (2, figL G)), (AD 0, .inr (5, [.int cnt, .ref (AD 1), .ref (AD 8)])), (AD 1, .inl (cY 2, 6, .inr (.inr (.inr (.inr (fun j => some (AD (2 + j))))))))] ++ bkM AD cY MV) H := hP1
      have hD : va_D A ([(qd, .inr (1, [.ref (AD 0), .ref ql, .ref qr])), (ql, .inr (2, figL (X2_rememberAheadOfHits_w0 F))), (qr, .inr (2, figL G)), (AD 0, .inr (5, [.int cnt, .ref (AD 1), .ref (AD 8)])), (AD 1, .inl (cY 2, 6, .inr (.inr (.inr (.inr (fun j => some (AD (2 + j))))))))] ++ bkM AD cY MV) := hD1
      have hS := hS1
      clear hP1 hD1 hS1
      obtain ⟨z_21, ez_21⟩ : ∃ z, z = (X2_rememberAheadOfHits_w0 F) := ⟨_, rfl⟩
      rw [← ez_21] at hP hD
      refine lv_aload_n hx hb dX1_strike_96 rfl (lv_at hl 4 rfl) ?_
      refine va_get (D := (dC, dI)) (ci := 1) (v := .ref qr) (C := RX1) (T := TX1) (N := 3) hx hb hts inw_X1_strike_X1 hown hK hP 0 rfl rfl 2 (by decide) (hts (.fieldLink RX1 20 "DuelFrames$Duel" "right" "LDuelFrames$Figure;") (List.mem_of_getElem? (i := 4) rfl)) (fun _ h9 => h9) rfl dX1_strike_97 ?_
      have hPc := hP.sub (ws' := [(qr, .inr (2, figL G))]) [2] rfl
      have hDc := hD.sub (ws' := [(qr, .inr (2, figL G))]) [2] (by decide) rfl
      have hFc := va_free (wc := [(qr, .inr (2, figL G))]) hD hS hA [2] rfl
      refine va_callv (va_runV (As := []) (rest := []) ⟨hx, hb, hml, hown, hts⟩ (c_X2_rememberAheadOfHits l dC dI cY qr G H.size) (cwV 0 hts gX1_strike_X2_rememberAheadOfHits rfl rfl rfl (by decide +kernel) ⟨Nat.le_of_ble_eq_true rfl, Nat.le_of_ble_eq_true rfl⟩) ⟨blindW, va_recv hK hPc (ci := 2) (q0 := 0) rfl rfl, fun U hU hW => ⟨rfl, wPre_of hPc hK hN hDc U hU hW⟩⟩ rfl rfl hl.1 rfl (lv_room (Nat.le_of_ble_eq_true rfl)) dX1_strike_100 ⟨Nat.zero_le _, Nat.zero_le _⟩) hS (fun q _ h => hFc q h) hFc (fun u t H1 locs ht hvm hw hB hz1 hk1 hS1 => ?_)
      have hJ := wJoinQ (wr := [(qd, .inr (1, [.ref (AD 0), .ref ql, .ref qr])), (ql, .inr (2, figL z_21)), (AD 0, .inr (5, [.int cnt, .ref (AD 1), .ref (AD 8)])), (AD 1, .inl (cY 2, 6, .inr (.inr (.inr (.inr (fun j => some (AD (2 + j))))))))]) (w1 := [(qr, .inr (2, figL (X2_rememberAheadOfHits_w0 G)))]) (wn := [(qd, .inr (1, [.ref (AD 0), .ref ql, .ref qr])), (ql, .inr (2, figL z_21)), (qr, .inr (2, figL (X2_rememberAheadOfHits_w0 G))), (AD 0, .inr (5, [.int cnt, .ref (AD 1), .ref (AD 8)])), (AD 1, .inl (cY 2, 6, .inr (.inr (.inr (.inr (fun j => some (AD (2 + j))))))))]) hP hD [2] [0, 1, 3, 4] rfl rfl (by decide) (by decide) hk1 hFc hB ht [0, 1, 4, 2, 3] rfl (by decide)
      clear hB hk1 hFc hPc hDc hP hD hS hz1 hvm ht t
      obtain ⟨hP1, hD1⟩ := hJ
      generalize H1 = H at hP1 hS1 ⊢
      have hP : va_P (dC, dI) vwCl ([(qd, .inr (1, [.ref (AD 0), .ref ql, .ref qr])), (ql, .inr (2, figL z_21)), (qr, .inr (2, figL (X2_rememberAheadOfHits_w0 G))), (AD 0, .inr (5, [.int cnt, .ref (AD 1), .ref (AD 8)])), (AD 1, .inl (cY 2, 6, .inr (.inr (.inr (.inr (fun j => some (AD (2 + j))))))))] ++ bkM AD cY MV) H := hP1
      have hD : va_D A ([(qd, .inr (1, [.ref (AD 0), .ref ql, .ref qr])), (ql, .inr (2, figL z_21)), (qr, .inr (2, figL (X2_rememberAheadOfHits_w0 G))), (AD 0, .inr (5, [.int cnt, .ref (AD 1), .ref (AD 8)])), (AD 1, .inl (cY 2, 6, .inr (.inr (.inr (.inr (fun j => some (AD (2 + j))))))))] ++ bkM AD cY MV) := hD1
      have hS := hS1
      clear hP1 hD1 hS1
      obtain ⟨z_23, ez_23⟩ : ∃ z, z = (X2_rememberAheadOfHits_w0 G) := ⟨_, rfl⟩
      rw [← ez_23] at hP hD
      refine lv_iload_n hx hb dX1_strike_103 rfl (lv_at hl 1 rfl) ?_
      refine lv_if_eq (tgt := 119) hx hb dX1_strike_104 (by decide) (fun c_24 => ?_) (fun c_24 => ?_)
      · exact absurd c_24 c_5
      refine lv_aload_n hx hb dX1_strike_107 rfl (lv_at hl 4 rfl) ?_
      refine va_get (D := (dC, dI)) (ci := 1) (v := .ref ql) (C := RX1) (T := TX1) (N := 3) hx hb hts inw_X1_strike_X1 hown hK hP 0 rfl rfl 1 (by decide) (hts (.fieldLink RX1 14 "DuelFrames$Duel" "left" "LDuelFrames$Figure;") (List.mem_of_getElem? (i := 2) rfl)) (fun _ h9 => h9) rfl dX1_strike_108 ?_
      refine lv_aload_n hx hb dX1_strike_111 rfl (lv_at hl 3 rfl) ?_
      refine lv_aload_n hx hb dX1_strike_112 rfl (lv_at hl 4 rfl) ?_
      refine va_get (D := (dC, dI)) (ci := 1) (v := .ref qr) (C := RX1) (T := TX1) (N := 3) hx hb hts inw_X1_strike_X1 hown hK hP 0 rfl rfl 2 (by decide) (hts (.fieldLink RX1 20 "DuelFrames$Duel" "right" "LDuelFrames$Figure;") (List.mem_of_getElem? (i := 4) rfl)) (fun _ h9 => h9) rfl dX1_strike_113 ?_
      have hPc := hP.part (cx := [(ql, .inr (2, figL z_21)), (qr, .inr (2, figL z_23))]) [1, 2] rfl
      have hDc := hD.part (cx := [(ql, .inr (2, figL z_21)), (qr, .inr (2, figL z_23))]) [1, 2] (by decide) rfl
      have hFc := va_freeP (cx := [(ql, .inr (2, figL z_21)), (qr, .inr (2, figL z_23))]) (pl := bkM AD cY MV) hD hS hA [1, 2] rfl
      refine va_callv (va_runS (As := [.ref ql, .ref (AD (2 + (mi (F 5)))), .ref qr]) (rest := []) ⟨hx, hb, hml, hown, hts⟩ (c_X1_land l dC dI cY ql qr z_21 z_23 AD MV (mi (F 5)) (by (try simp only [ez_23, ez_21]); exact (mi_lt (F 5))) H.size) (va_cwS 3 hts gX1_strike_X1_land rfl rfl rfl (by decide +kernel) ⟨Nat.le_of_ble_eq_true rfl, Nat.le_of_ble_eq_true rfl⟩) ⟨blindW, fun U hU hW => ⟨rfl, wPre_of hPc hK hN hDc U hU hW⟩⟩ rfl rfl hl.1 rfl (lv_room (Nat.le_of_ble_eq_true rfl)) dX1_strike_116 ⟨Nat.zero_le _, Nat.zero_le _⟩) hS (fun q _ h => hFc q h) hFc (fun u t H1 locs ht hvm hw hB hz1 hk1 hS1 => ?_)
      have hJ := wJoinP (wr := [(qd, .inr (1, [.ref (AD 0), .ref ql, .ref qr])), (AD 0, .inr (5, [.int cnt, .ref (AD 1), .ref (AD 8)])), (AD 1, .inl (cY 2, 6, .inr (.inr (.inr (.inr (fun j => some (AD (2 + j))))))))]) (rx := [(ql, .inr (2, figL (X1_land_w0 z_21 z_23 MV (mi (F 5))))), (qr, .inr (2, figL (X1_land_w1 z_23 MV (mi (F 5)))))]) (wn := [(qd, .inr (1, [.ref (AD 0), .ref ql, .ref qr])), (ql, .inr (2, figL (X1_land_w0 z_21 z_23 MV (mi (F 5))))), (qr, .inr (2, figL (X1_land_w1 z_23 MV (mi (F 5))))), (AD 0, .inr (5, [.int cnt, .ref (AD 1), .ref (AD 8)])), (AD 1, .inl (cY 2, 6, .inr (.inr (.inr (.inr (fun j => some (AD (2 + j))))))))]) hP hD [1, 2] [0, 3, 4] rfl rfl (by decide) (by decide) hk1 hFc hB ht [0, 3, 4, 1, 2] rfl (by decide)
      clear hB hk1 hFc hPc hDc hP hD hS hz1 hvm ht t
      obtain ⟨hP1, hD1⟩ := hJ
      generalize H1 = H at hP1 hS1 ⊢
      have hP : va_P (dC, dI) vwCl ([(qd, .inr (1, [.ref (AD 0), .ref ql, .ref qr])), (ql, .inr (2, figL (X1_land_w0 z_21 z_23 MV (mi (F 5))))), (qr, .inr (2, figL (X1_land_w1 z_23 MV (mi (F 5))))), (AD 0, .inr (5, [.int cnt, .ref (AD 1), .ref (AD 8)])), (AD 1, .inl (cY 2, 6, .inr (.inr (.inr (.inr (fun j => some (AD (2 + j))))))))] ++ bkM AD cY MV) H := hP1
      have hD : va_D A ([(qd, .inr (1, [.ref (AD 0), .ref ql, .ref qr])), (ql, .inr (2, figL (X1_land_w0 z_21 z_23 MV (mi (F 5))))), (qr, .inr (2, figL (X1_land_w1 z_23 MV (mi (F 5))))), (AD 0, .inr (5, [.int cnt, .ref (AD 1), .ref (AD 8)])), (AD 1, .inl (cY 2, 6, .inr (.inr (.inr (.inr (fun j => some (AD (2 + j))))))))] ++ bkM AD cY MV) := hD1
      have hS := hS1
      clear hP1 hD1 hS1
      obtain ⟨z_26, ez_26⟩ : ∃ z, z = (X1_land_w0 z_21 z_23 MV (mi (F 5))) := ⟨_, rfl⟩
      rw [← ez_26] at hP hD
      obtain ⟨z_27, ez_27⟩ : ∃ z, z = (X1_land_w1 z_23 MV (mi (F 5))) := ⟨_, rfl⟩
      rw [← ez_27] at hP hD
      refine lv_iload hx hb dX1_strike_119 (lv_at hl 0 rfl) ?_
      refine lv_if_eq (tgt := 136) hx hb dX1_strike_121 (by decide) (fun c_28 => ?_) (fun c_28 => ?_)
      rotate_left
      · exact absurd c_19 c_28
      have eo_29 : (X1_strike_w1 F G MV) = z_26 := by rw [X1_strike_w1]; simp only [← ez_21, ← ez_23, ← ez_26, ← ez_27, eq_false c_5, eq_true c_19, ↓reduceIte]
      have eo_30 : (X1_strike_w2 F G MV) = z_27 := by rw [X1_strike_w2]; simp only [← ez_21, ← ez_23, ← ez_26, ← ez_27, eq_false c_5, eq_true c_19, ↓reduceIte]
      have hP9 : va_P (dC, dI) vwCl ([(qd, .inr (1, [.ref (AD 0), .ref ql, .ref qr])), (ql, .inr (2, figL (X1_strike_w1 F G MV))), (qr, .inr (2, figL (X1_strike_w2 F G MV))), (AD 0, .inr (5, [.int cnt, .ref (AD 1), .ref (AD 8)])), (AD 1, .inl (cY 2, 6, .inr (.inr (.inr (.inr (fun j => some (AD (2 + j))))))))] ++ bkM AD cY MV) H := by simp only [eo_29, eo_30]; exact hP
      have hD9 : va_D A ([(qd, .inr (1, [.ref (AD 0), .ref ql, .ref qr])), (ql, .inr (2, figL (X1_strike_w1 F G MV))), (qr, .inr (2, figL (X1_strike_w2 F G MV))), (AD 0, .inr (5, [.int cnt, .ref (AD 1), .ref (AD 8)])), (AD 1, .inl (cY 2, 6, .inr (.inr (.inr (.inr (fun j => some (AD (2 + j))))))))] ++ bkM AD cY MV) := by simp only [eo_29, eo_30]; exact hD
      exact W.vret hx hb hr (fun t ht hW => ⟨⟨(), rfl, trivial, wPost_of hP9 hD9 ht⟩, hS.F ht⟩) hS.2.2 dX1_strike_136
    · refine lv_aload_n hx hb dX1_strike_68 rfl (lv_at hl 3 rfl) ?_
      have hPm := bk_move hP (mi_lt (F 5))
      refine va_get (D := (dC, dI)) (ci := 4) (v := .int ((MV (mi (F 5))) 4)) (C := RX4) (T := TX4) (N := 8) hx hb hts inw_X1_strike_X4 hown hK hPm 0 rfl rfl 4 (by decide) (hts (.fieldLink RX1 83 "DuelFrames$Move" "kind" "I") (List.mem_of_getElem? (i := 5) rfl)) (fun _ h9 => h9) rfl dX1_strike_69 ?_
      refine lv_iconst (v := 3) hx hb dX1_strike_72 (by decide) ?_
      refine lv_icmp_ne (tgt := 89) hx hb dX1_strike_73 (by decide) (fun c_31 => ?_) (fun c_31 => ?_)
      · refine lv_aload_n hx hb dX1_strike_89 rfl (lv_at hl 4 rfl) ?_
        refine va_get (D := (dC, dI)) (ci := 1) (v := .ref ql) (C := RX1) (T := TX1) (N := 3) hx hb hts inw_X1_strike_X1 hown hK hP 0 rfl rfl 1 (by decide) (hts (.fieldLink RX1 14 "DuelFrames$Duel" "left" "LDuelFrames$Figure;") (List.mem_of_getElem? (i := 2) rfl)) (fun _ h9 => h9) rfl dX1_strike_90 ?_
        have hPc := hP.sub (ws' := [(ql, .inr (2, figL F))]) [1] rfl
        have hDc := hD.sub (ws' := [(ql, .inr (2, figL F))]) [1] (by decide) rfl
        have hFc := va_free (wc := [(ql, .inr (2, figL F))]) hD hS hA [1] rfl
        refine va_callv (va_runV (As := []) (rest := []) ⟨hx, hb, hml, hown, hts⟩ (c_X2_rememberAheadOfHits l dC dI cY ql F s.heap.size) (cwV 0 hts gX1_strike_X2_rememberAheadOfHits rfl rfl rfl (by decide +kernel) ⟨Nat.le_of_ble_eq_true rfl, Nat.le_of_ble_eq_true rfl⟩) ⟨blindW, va_recv hK hPc (ci := 2) (q0 := 0) rfl rfl, fun U hU hW => ⟨rfl, wPre_of hPc hK hN hDc U hU hW⟩⟩ rfl rfl hl.1 rfl (lv_room (Nat.le_of_ble_eq_true rfl)) dX1_strike_93 ⟨Nat.zero_le _, Nat.zero_le _⟩) hS (fun q _ h => hFc q h) hFc (fun u t H1 locs ht hvm hw hB hz1 hk1 hS1 => ?_)
        have hJ := wJoinQ (wr := [(qd, .inr (1, [.ref (AD 0), .ref ql, .ref qr])), (qr, .inr (2, figL G)), (AD 0, .inr (5, [.int cnt, .ref (AD 1), .ref (AD 8)])), (AD 1, .inl (cY 2, 6, .inr (.inr (.inr (.inr (fun j => some (AD (2 + j))))))))]) (w1 := [(ql, .inr (2, figL (X2_rememberAheadOfHits_w0 F)))]) (wn := [(qd, .inr (1, [.ref (AD 0), .ref ql, .ref qr])), (ql, .inr (2, figL (X2_rememberAheadOfHits_w0 F))), (qr, .inr (2, figL G)), (AD 0, .inr (5, [.int cnt, .ref (AD 1), .ref (AD 8)])), (AD 1, .inl (cY 2, 6, .inr (.inr (.inr (.inr (fun j => some (AD (2 + j))))))))]) hP hD [1] [0, 2, 3, 4] rfl rfl (by decide) (by decide) hk1 hFc hB ht [0, 4, 1, 2, 3] rfl (by decide)
        clear hB hk1 hFc hPc hDc hP hD hS hz1 hvm ht t
        obtain ⟨hP1, hD1⟩ := hJ
        generalize H1 = H at hP1 hS1 ⊢
        have hP : va_P (dC, dI) vwCl ([(qd, .inr (1, [.ref (AD 0), .ref ql, .ref qr])), (ql, .inr (2, figL (X2_rememberAheadOfHits_w0 F))), (qr, .inr (2, figL G)), (AD 0, .inr (5, [.int cnt, .ref (AD 1), .ref (AD 8)])), (AD 1, .inl (cY 2, 6, .inr (.inr (.inr (.inr (fun j => some (AD (2 + j))))))))] ++ bkM AD cY MV) H := hP1
        have hD : va_D A ([(qd, .inr (1, [.ref (AD 0), .ref ql, .ref qr])), (ql, .inr (2, figL (X2_rememberAheadOfHits_w0 F))), (qr, .inr (2, figL G)), (AD 0, .inr (5, [.int cnt, .ref (AD 1), .ref (AD 8)])), (AD 1, .inl (cY 2, 6, .inr (.inr (.inr (.inr (fun j => some (AD (2 + j))))))))] ++ bkM AD cY MV) := hD1
        have hS := hS1
        clear hP1 hD1 hS1
        obtain ⟨z_33, ez_33⟩ : ∃ z, z = (X2_rememberAheadOfHits_w0 F) := ⟨_, rfl⟩
        rw [← ez_33] at hP hD
        refine lv_aload_n hx hb dX1_strike_96 rfl (lv_at hl 4 rfl) ?_
        refine va_get (D := (dC, dI)) (ci := 1) (v := .ref qr) (C := RX1) (T := TX1) (N := 3) hx hb hts inw_X1_strike_X1 hown hK hP 0 rfl rfl 2 (by decide) (hts (.fieldLink RX1 20 "DuelFrames$Duel" "right" "LDuelFrames$Figure;") (List.mem_of_getElem? (i := 4) rfl)) (fun _ h9 => h9) rfl dX1_strike_97 ?_
        have hPc := hP.sub (ws' := [(qr, .inr (2, figL G))]) [2] rfl
        have hDc := hD.sub (ws' := [(qr, .inr (2, figL G))]) [2] (by decide) rfl
        have hFc := va_free (wc := [(qr, .inr (2, figL G))]) hD hS hA [2] rfl
        refine va_callv (va_runV (As := []) (rest := []) ⟨hx, hb, hml, hown, hts⟩ (c_X2_rememberAheadOfHits l dC dI cY qr G H.size) (cwV 0 hts gX1_strike_X2_rememberAheadOfHits rfl rfl rfl (by decide +kernel) ⟨Nat.le_of_ble_eq_true rfl, Nat.le_of_ble_eq_true rfl⟩) ⟨blindW, va_recv hK hPc (ci := 2) (q0 := 0) rfl rfl, fun U hU hW => ⟨rfl, wPre_of hPc hK hN hDc U hU hW⟩⟩ rfl rfl hl.1 rfl (lv_room (Nat.le_of_ble_eq_true rfl)) dX1_strike_100 ⟨Nat.zero_le _, Nat.zero_le _⟩) hS (fun q _ h => hFc q h) hFc (fun u t H1 locs ht hvm hw hB hz1 hk1 hS1 => ?_)
        have hJ := wJoinQ (wr := [(qd, .inr (1, [.ref (AD 0), .ref ql, .ref qr])), (ql, .inr (2, figL z_33)), (AD 0, .inr (5, [.int cnt, .ref (AD 1), .ref (AD 8)])), (AD 1, .inl (cY 2, 6, .inr (.inr (.inr (.inr (fun j => some (AD (2 + j))))))))]) (w1 := [(qr, .inr (2, figL (X2_rememberAheadOfHits_w0 G)))]) (wn := [(qd, .inr (1, [.ref (AD 0), .ref ql, .ref qr])), (ql, .inr (2, figL z_33)), (qr, .inr (2, figL (X2_rememberAheadOfHits_w0 G))), (AD 0, .inr (5, [.int cnt, .ref (AD 1), .ref (AD 8)])), (AD 1, .inl (cY 2, 6, .inr (.inr (.inr (.inr (fun j => some (AD (2 + j))))))))]) hP hD [2] [0, 1, 3, 4] rfl rfl (by decide) (by decide) hk1 hFc hB ht [0, 1, 4, 2, 3] rfl (by decide)
        clear hB hk1 hFc hPc hDc hP hD hS hz1 hvm ht t
        obtain ⟨hP1, hD1⟩ := hJ
        generalize H1 = H at hP1 hS1 ⊢
        have hP : va_P (dC, dI) vwCl ([(qd, .inr (1, [.ref (AD 0), .ref ql, .ref qr])), (ql, .inr (2, figL z_33)), (qr, .inr (2, figL (X2_rememberAheadOfHits_w0 G))), (AD 0, .inr (5, [.int cnt, .ref (AD 1), .ref (AD 8)])), (AD 1, .inl (cY 2, 6, .inr (.inr (.inr (.inr (fun j => some (AD (2 + j))))))))] ++ bkM AD cY MV) H := hP1
        have hD : va_D A ([(qd, .inr (1, [.ref (AD 0), .ref ql, .ref qr])), (ql, .inr (2, figL z_33)), (qr, .inr (2, figL (X2_rememberAheadOfHits_w0 G))), (AD 0, .inr (5, [.int cnt, .ref (AD 1), .ref (AD 8)])), (AD 1, .inl (cY 2, 6, .inr (.inr (.inr (.inr (fun j => some (AD (2 + j))))))))] ++ bkM AD cY MV) := hD1
        have hS := hS1
        clear hP1 hD1 hS1
        obtain ⟨z_35, ez_35⟩ : ∃ z, z = (X2_rememberAheadOfHits_w0 G) := ⟨_, rfl⟩
        rw [← ez_35] at hP hD
        refine lv_iload_n hx hb dX1_strike_103 rfl (lv_at hl 1 rfl) ?_
        refine lv_if_eq (tgt := 119) hx hb dX1_strike_104 (by decide) (fun c_36 => ?_) (fun c_36 => ?_)
        · exact absurd c_36 c_5
        refine lv_aload_n hx hb dX1_strike_107 rfl (lv_at hl 4 rfl) ?_
        refine va_get (D := (dC, dI)) (ci := 1) (v := .ref ql) (C := RX1) (T := TX1) (N := 3) hx hb hts inw_X1_strike_X1 hown hK hP 0 rfl rfl 1 (by decide) (hts (.fieldLink RX1 14 "DuelFrames$Duel" "left" "LDuelFrames$Figure;") (List.mem_of_getElem? (i := 2) rfl)) (fun _ h9 => h9) rfl dX1_strike_108 ?_
        refine lv_aload_n hx hb dX1_strike_111 rfl (lv_at hl 3 rfl) ?_
        refine lv_aload_n hx hb dX1_strike_112 rfl (lv_at hl 4 rfl) ?_
        refine va_get (D := (dC, dI)) (ci := 1) (v := .ref qr) (C := RX1) (T := TX1) (N := 3) hx hb hts inw_X1_strike_X1 hown hK hP 0 rfl rfl 2 (by decide) (hts (.fieldLink RX1 20 "DuelFrames$Duel" "right" "LDuelFrames$Figure;") (List.mem_of_getElem? (i := 4) rfl)) (fun _ h9 => h9) rfl dX1_strike_113 ?_
        have hPc := hP.part (cx := [(ql, .inr (2, figL z_33)), (qr, .inr (2, figL z_35))]) [1, 2] rfl
        have hDc := hD.part (cx := [(ql, .inr (2, figL z_33)), (qr, .inr (2, figL z_35))]) [1, 2] (by decide) rfl
        have hFc := va_freeP (cx := [(ql, .inr (2, figL z_33)), (qr, .inr (2, figL z_35))]) (pl := bkM AD cY MV) hD hS hA [1, 2] rfl
        refine va_callv (va_runS (As := [.ref ql, .ref (AD (2 + (mi (F 5)))), .ref qr]) (rest := []) ⟨hx, hb, hml, hown, hts⟩ (c_X1_land l dC dI cY ql qr z_33 z_35 AD MV (mi (F 5)) (by (try simp only [ez_35, ez_33]); exact (mi_lt (F 5))) H.size) (va_cwS 3 hts gX1_strike_X1_land rfl rfl rfl (by decide +kernel) ⟨Nat.le_of_ble_eq_true rfl, Nat.le_of_ble_eq_true rfl⟩) ⟨blindW, fun U hU hW => ⟨rfl, wPre_of hPc hK hN hDc U hU hW⟩⟩ rfl rfl hl.1 rfl (lv_room (Nat.le_of_ble_eq_true rfl)) dX1_strike_116 ⟨Nat.zero_le _, Nat.zero_le _⟩) hS (fun q _ h => hFc q h) hFc (fun u t H1 locs ht hvm hw hB hz1 hk1 hS1 => ?_)
        have hJ := wJoinP (wr := [(qd, .inr (1, [.ref (AD 0), .ref ql, .ref qr])), (AD 0, .inr (5, [.int cnt, .ref (AD 1), .ref (AD 8)])), (AD 1, .inl (cY 2, 6, .inr (.inr (.inr (.inr (fun j => some (AD (2 + j))))))))]) (rx := [(ql, .inr (2, figL (X1_land_w0 z_33 z_35 MV (mi (F 5))))), (qr, .inr (2, figL (X1_land_w1 z_35 MV (mi (F 5)))))]) (wn := [(qd, .inr (1, [.ref (AD 0), .ref ql, .ref qr])), (ql, .inr (2, figL (X1_land_w0 z_33 z_35 MV (mi (F 5))))), (qr, .inr (2, figL (X1_land_w1 z_35 MV (mi (F 5))))), (AD 0, .inr (5, [.int cnt, .ref (AD 1), .ref (AD 8)])), (AD 1, .inl (cY 2, 6, .inr (.inr (.inr (.inr (fun j => some (AD (2 + j))))))))]) hP hD [1, 2] [0, 3, 4] rfl rfl (by decide) (by decide) hk1 hFc hB ht [0, 3, 4, 1, 2] rfl (by decide)
        clear hB hk1 hFc hPc hDc hP hD hS hz1 hvm ht t
        obtain ⟨hP1, hD1⟩ := hJ
        generalize H1 = H at hP1 hS1 ⊢
        have hP : va_P (dC, dI) vwCl ([(qd, .inr (1, [.ref (AD 0), .ref ql, .ref qr])), (ql, .inr (2, figL (X1_land_w0 z_33 z_35 MV (mi (F 5))))), (qr, .inr (2, figL (X1_land_w1 z_35 MV (mi (F 5))))), (AD 0, .inr (5, [.int cnt, .ref (AD 1), .ref (AD 8)])), (AD 1, .inl (cY 2, 6, .inr (.inr (.inr (.inr (fun j => some (AD (2 + j))))))))] ++ bkM AD cY MV) H := hP1
        have hD : va_D A ([(qd, .inr (1, [.ref (AD 0), .ref ql, .ref qr])), (ql, .inr (2, figL (X1_land_w0 z_33 z_35 MV (mi (F 5))))), (qr, .inr (2, figL (X1_land_w1 z_35 MV (mi (F 5))))), (AD 0, .inr (5, [.int cnt, .ref (AD 1), .ref (AD 8)])), (AD 1, .inl (cY 2, 6, .inr (.inr (.inr (.inr (fun j => some (AD (2 + j))))))))] ++ bkM AD cY MV) := hD1
        have hS := hS1
        clear hP1 hD1 hS1
        obtain ⟨z_38, ez_38⟩ : ∃ z, z = (X1_land_w0 z_33 z_35 MV (mi (F 5))) := ⟨_, rfl⟩
        rw [← ez_38] at hP hD
        obtain ⟨z_39, ez_39⟩ : ∃ z, z = (X1_land_w1 z_35 MV (mi (F 5))) := ⟨_, rfl⟩
        rw [← ez_39] at hP hD
        refine lv_iload hx hb dX1_strike_119 (lv_at hl 0 rfl) ?_
        refine lv_if_eq (tgt := 136) hx hb dX1_strike_121 (by decide) (fun c_40 => ?_) (fun c_40 => ?_)
        · exact absurd c_40 c_19
        refine lv_aload_n hx hb dX1_strike_124 rfl (lv_at hl 4 rfl) ?_
        refine va_get (D := (dC, dI)) (ci := 1) (v := .ref qr) (C := RX1) (T := TX1) (N := 3) hx hb hts inw_X1_strike_X1 hown hK hP 0 rfl rfl 2 (by decide) (hts (.fieldLink RX1 20 "DuelFrames$Duel" "right" "LDuelFrames$Figure;") (List.mem_of_getElem? (i := 4) rfl)) (fun _ h9 => h9) rfl dX1_strike_125 ?_
        refine lv_aload_n hx hb dX1_strike_128 rfl (lv_at hl 2 rfl) ?_
        refine lv_aload_n hx hb dX1_strike_129 rfl (lv_at hl 4 rfl) ?_
        refine va_get (D := (dC, dI)) (ci := 1) (v := .ref ql) (C := RX1) (T := TX1) (N := 3) hx hb hts inw_X1_strike_X1 hown hK hP 0 rfl rfl 1 (by decide) (hts (.fieldLink RX1 14 "DuelFrames$Duel" "left" "LDuelFrames$Figure;") (List.mem_of_getElem? (i := 2) rfl)) (fun _ h9 => h9) rfl dX1_strike_130 ?_
        have hPc := hP.part (cx := [(qr, .inr (2, figL z_39)), (ql, .inr (2, figL z_38))]) [2, 1] rfl
        have hDc := hD.part (cx := [(qr, .inr (2, figL z_39)), (ql, .inr (2, figL z_38))]) [2, 1] (by decide) rfl
        have hFc := va_freeP (cx := [(qr, .inr (2, figL z_39)), (ql, .inr (2, figL z_38))]) (pl := bkM AD cY MV) hD hS hA [2, 1] rfl
        refine va_callv (va_runS (As := [.ref qr, .ref (AD (2 + (mi (G 5)))), .ref ql]) (rest := []) ⟨hx, hb, hml, hown, hts⟩ (c_X1_land l dC dI cY qr ql z_39 z_38 AD MV (mi (G 5)) (by (try simp only [ez_39, ez_38, ez_35, ez_33]); exact (mi_lt (G 5))) H.size) (va_cwS 3 hts gX1_strike_X1_land rfl rfl rfl (by decide +kernel) ⟨Nat.le_of_ble_eq_true rfl, Nat.le_of_ble_eq_true rfl⟩) ⟨blindW, fun U hU hW => ⟨rfl, wPre_of hPc hK hN hDc U hU hW⟩⟩ rfl rfl hl.1 rfl (lv_room (Nat.le_of_ble_eq_true rfl)) dX1_strike_133 ⟨Nat.zero_le _, Nat.zero_le _⟩) hS (fun q _ h => hFc q h) hFc (fun u t H1 locs ht hvm hw hB hz1 hk1 hS1 => ?_)
        have hJ := wJoinP (wr := [(qd, .inr (1, [.ref (AD 0), .ref ql, .ref qr])), (AD 0, .inr (5, [.int cnt, .ref (AD 1), .ref (AD 8)])), (AD 1, .inl (cY 2, 6, .inr (.inr (.inr (.inr (fun j => some (AD (2 + j))))))))]) (rx := [(qr, .inr (2, figL (X1_land_w0 z_39 z_38 MV (mi (G 5))))), (ql, .inr (2, figL (X1_land_w1 z_38 MV (mi (G 5)))))]) (wn := [(qd, .inr (1, [.ref (AD 0), .ref ql, .ref qr])), (ql, .inr (2, figL (X1_land_w1 z_38 MV (mi (G 5))))), (qr, .inr (2, figL (X1_land_w0 z_39 z_38 MV (mi (G 5))))), (AD 0, .inr (5, [.int cnt, .ref (AD 1), .ref (AD 8)])), (AD 1, .inl (cY 2, 6, .inr (.inr (.inr (.inr (fun j => some (AD (2 + j))))))))]) hP hD [2, 1] [0, 3, 4] rfl rfl (by decide) (by decide) hk1 hFc hB ht [0, 4, 3, 1, 2] rfl (by decide)
        clear hB hk1 hFc hPc hDc hP hD hS hz1 hvm ht t
        obtain ⟨hP1, hD1⟩ := hJ
        generalize H1 = H at hP1 hS1 ⊢
        have hP : va_P (dC, dI) vwCl ([(qd, .inr (1, [.ref (AD 0), .ref ql, .ref qr])), (ql, .inr (2, figL (X1_land_w1 z_38 MV (mi (G 5))))), (qr, .inr (2, figL (X1_land_w0 z_39 z_38 MV (mi (G 5))))), (AD 0, .inr (5, [.int cnt, .ref (AD 1), .ref (AD 8)])), (AD 1, .inl (cY 2, 6, .inr (.inr (.inr (.inr (fun j => some (AD (2 + j))))))))] ++ bkM AD cY MV) H := hP1
        have hD : va_D A ([(qd, .inr (1, [.ref (AD 0), .ref ql, .ref qr])), (ql, .inr (2, figL (X1_land_w1 z_38 MV (mi (G 5))))), (qr, .inr (2, figL (X1_land_w0 z_39 z_38 MV (mi (G 5))))), (AD 0, .inr (5, [.int cnt, .ref (AD 1), .ref (AD 8)])), (AD 1, .inl (cY 2, 6, .inr (.inr (.inr (.inr (fun j => some (AD (2 + j))))))))] ++ bkM AD cY MV) := hD1
        have hS := hS1
        clear hP1 hD1 hS1
        obtain ⟨z_42, ez_42⟩ : ∃ z, z = (X1_land_w1 z_38 MV (mi (G 5))) := ⟨_, rfl⟩
        rw [← ez_42] at hP hD
        obtain ⟨z_43, ez_43⟩ : ∃ z, z = (X1_land_w0 z_39 z_38 MV (mi (G 5))) := ⟨_, rfl⟩
        rw [← ez_43] at hP hD
        have eo_44 : (X1_strike_w1 F G MV) = z_42 := by rw [X1_strike_w1]; simp only [← ez_33, ← ez_35, ← ez_38, ← ez_39, ← ez_42, ← ez_43, eq_false c_5, eq_false c_19, eq_false c_31, ↓reduceIte]
        have eo_45 : (X1_strike_w2 F G MV) = z_43 := by rw [X1_strike_w2]; simp only [← ez_33, ← ez_35, ← ez_38, ← ez_39, ← ez_42, ← ez_43, eq_false c_5, eq_false c_19, eq_false c_31, ↓reduceIte]
        have hP9 : va_P (dC, dI) vwCl ([(qd, .inr (1, [.ref (AD 0), .ref ql, .ref qr])), (ql, .inr (2, figL (X1_strike_w1 F G MV))), (qr, .inr (2, figL (X1_strike_w2 F G MV))), (AD 0, .inr (5, [.int cnt, .ref (AD 1), .ref (AD 8)])), (AD 1, .inl (cY 2, 6, .inr (.inr (.inr (.inr (fun j => some (AD (2 + j))))))))] ++ bkM AD cY MV) H := by simp only [eo_44, eo_45]; exact hP
        have hD9 : va_D A ([(qd, .inr (1, [.ref (AD 0), .ref ql, .ref qr])), (ql, .inr (2, figL (X1_strike_w1 F G MV))), (qr, .inr (2, figL (X1_strike_w2 F G MV))), (AD 0, .inr (5, [.int cnt, .ref (AD 1), .ref (AD 8)])), (AD 1, .inl (cY 2, 6, .inr (.inr (.inr (.inr (fun j => some (AD (2 + j))))))))] ++ bkM AD cY MV) := by simp only [eo_44, eo_45]; exact hD
        exact W.vret hx hb hr (fun t ht hW => ⟨⟨(), rfl, trivial, wPost_of hP9 hD9 ht⟩, hS.F ht⟩) hS.2.2 dX1_strike_136
      · refine lv_aload_n hx hb dX1_strike_76 rfl (lv_at hl 2 rfl) ?_
        have hPm := bk_move hP (mi_lt (G 5))
        refine va_get (D := (dC, dI)) (ci := 4) (v := .int ((MV (mi (G 5))) 4)) (C := RX4) (T := TX4) (N := 8) hx hb hts inw_X1_strike_X4 hown hK hPm 0 rfl rfl 4 (by decide) (hts (.fieldLink RX1 83 "DuelFrames$Move" "kind" "I") (List.mem_of_getElem? (i := 5) rfl)) (fun _ h9 => h9) rfl dX1_strike_77 ?_
        refine lv_iconst (v := 3) hx hb dX1_strike_80 (by decide) ?_
        refine lv_icmp_ne (tgt := 89) hx hb dX1_strike_81 (by decide) (fun c_46 => ?_) (fun c_46 => ?_)
        · refine lv_aload_n hx hb dX1_strike_89 rfl (lv_at hl 4 rfl) ?_
          refine va_get (D := (dC, dI)) (ci := 1) (v := .ref ql) (C := RX1) (T := TX1) (N := 3) hx hb hts inw_X1_strike_X1 hown hK hP 0 rfl rfl 1 (by decide) (hts (.fieldLink RX1 14 "DuelFrames$Duel" "left" "LDuelFrames$Figure;") (List.mem_of_getElem? (i := 2) rfl)) (fun _ h9 => h9) rfl dX1_strike_90 ?_
          have hPc := hP.sub (ws' := [(ql, .inr (2, figL F))]) [1] rfl
          have hDc := hD.sub (ws' := [(ql, .inr (2, figL F))]) [1] (by decide) rfl
          have hFc := va_free (wc := [(ql, .inr (2, figL F))]) hD hS hA [1] rfl
          refine va_callv (va_runV (As := []) (rest := []) ⟨hx, hb, hml, hown, hts⟩ (c_X2_rememberAheadOfHits l dC dI cY ql F s.heap.size) (cwV 0 hts gX1_strike_X2_rememberAheadOfHits rfl rfl rfl (by decide +kernel) ⟨Nat.le_of_ble_eq_true rfl, Nat.le_of_ble_eq_true rfl⟩) ⟨blindW, va_recv hK hPc (ci := 2) (q0 := 0) rfl rfl, fun U hU hW => ⟨rfl, wPre_of hPc hK hN hDc U hU hW⟩⟩ rfl rfl hl.1 rfl (lv_room (Nat.le_of_ble_eq_true rfl)) dX1_strike_93 ⟨Nat.zero_le _, Nat.zero_le _⟩) hS (fun q _ h => hFc q h) hFc (fun u t H1 locs ht hvm hw hB hz1 hk1 hS1 => ?_)
          have hJ := wJoinQ (wr := [(qd, .inr (1, [.ref (AD 0), .ref ql, .ref qr])), (qr, .inr (2, figL G)), (AD 0, .inr (5, [.int cnt, .ref (AD 1), .ref (AD 8)])), (AD 1, .inl (cY 2, 6, .inr (.inr (.inr (.inr (fun j => some (AD (2 + j))))))))]) (w1 := [(ql, .inr (2, figL (X2_rememberAheadOfHits_w0 F)))]) (wn := [(qd, .inr (1, [.ref (AD 0), .ref ql, .ref qr])), (ql, .inr (2, figL (X2_rememberAheadOfHits_w0 F))), (qr, .inr (2, figL G)), (AD 0, .inr (5, [.int cnt, .ref (AD 1), .ref (AD 8)])), (AD 1, .inl (cY 2, 6, .inr (.inr (.inr (.inr (fun j => some (AD (2 + j))))))))]) hP hD [1] [0, 2, 3, 4] rfl rfl (by decide) (by decide) hk1 hFc hB ht [0, 4, 1, 2, 3] rfl (by decide)
          clear hB hk1 hFc hPc hDc hP hD hS hz1 hvm ht t
          obtain ⟨hP1, hD1⟩ := hJ
          generalize H1 = H at hP1 hS1 ⊢
          have hP : va_P (dC, dI) vwCl ([(qd, .inr (1, [.ref (AD 0), .ref ql, .ref qr])), (ql, .inr (2, figL (X2_rememberAheadOfHits_w0 F))), (qr, .inr (2, figL G)), (AD 0, .inr (5, [.int cnt, .ref (AD 1), .ref (AD 8)])), (AD 1, .inl (cY 2, 6, .inr (.inr (.inr (.inr (fun j => some (AD (2 + j))))))))] ++ bkM AD cY MV) H := hP1
          have hD : va_D A ([(qd, .inr (1, [.ref (AD 0), .ref ql, .ref qr])), (ql, .inr (2, figL (X2_rememberAheadOfHits_w0 F))), (qr, .inr (2, figL G)), (AD 0, .inr (5, [.int cnt, .ref (AD 1), .ref (AD 8)])), (AD 1, .inl (cY 2, 6, .inr (.inr (.inr (.inr (fun j => some (AD (2 + j))))))))] ++ bkM AD cY MV) := hD1
          have hS := hS1
          clear hP1 hD1 hS1
          obtain ⟨z_48, ez_48⟩ : ∃ z, z = (X2_rememberAheadOfHits_w0 F) := ⟨_, rfl⟩
          rw [← ez_48] at hP hD
          refine lv_aload_n hx hb dX1_strike_96 rfl (lv_at hl 4 rfl) ?_
          refine va_get (D := (dC, dI)) (ci := 1) (v := .ref qr) (C := RX1) (T := TX1) (N := 3) hx hb hts inw_X1_strike_X1 hown hK hP 0 rfl rfl 2 (by decide) (hts (.fieldLink RX1 20 "DuelFrames$Duel" "right" "LDuelFrames$Figure;") (List.mem_of_getElem? (i := 4) rfl)) (fun _ h9 => h9) rfl dX1_strike_97 ?_
          have hPc := hP.sub (ws' := [(qr, .inr (2, figL G))]) [2] rfl
          have hDc := hD.sub (ws' := [(qr, .inr (2, figL G))]) [2] (by decide) rfl
          have hFc := va_free (wc := [(qr, .inr (2, figL G))]) hD hS hA [2] rfl
          refine va_callv (va_runV (As := []) (rest := []) ⟨hx, hb, hml, hown, hts⟩ (c_X2_rememberAheadOfHits l dC dI cY qr G H.size) (cwV 0 hts gX1_strike_X2_rememberAheadOfHits rfl rfl rfl (by decide +kernel) ⟨Nat.le_of_ble_eq_true rfl, Nat.le_of_ble_eq_true rfl⟩) ⟨blindW, va_recv hK hPc (ci := 2) (q0 := 0) rfl rfl, fun U hU hW => ⟨rfl, wPre_of hPc hK hN hDc U hU hW⟩⟩ rfl rfl hl.1 rfl (lv_room (Nat.le_of_ble_eq_true rfl)) dX1_strike_100 ⟨Nat.zero_le _, Nat.zero_le _⟩) hS (fun q _ h => hFc q h) hFc (fun u t H1 locs ht hvm hw hB hz1 hk1 hS1 => ?_)
          have hJ := wJoinQ (wr := [(qd, .inr (1, [.ref (AD 0), .ref ql, .ref qr])), (ql, .inr (2, figL z_48)), (AD 0, .inr (5, [.int cnt, .ref (AD 1), .ref (AD 8)])), (AD 1, .inl (cY 2, 6, .inr (.inr (.inr (.inr (fun j => some (AD (2 + j))))))))]) (w1 := [(qr, .inr (2, figL (X2_rememberAheadOfHits_w0 G)))]) (wn := [(qd, .inr (1, [.ref (AD 0), .ref ql, .ref qr])), (ql, .inr (2, figL z_48)), (qr, .inr (2, figL (X2_rememberAheadOfHits_w0 G))), (AD 0, .inr (5, [.int cnt, .ref (AD 1), .ref (AD 8)])), (AD 1, .inl (cY 2, 6, .inr (.inr (.inr (.inr (fun j => some (AD (2 + j))))))))]) hP hD [2] [0, 1, 3, 4] rfl rfl (by decide) (by decide) hk1 hFc hB ht [0, 1, 4, 2, 3] rfl (by decide)
          clear hB hk1 hFc hPc hDc hP hD hS hz1 hvm ht t
          obtain ⟨hP1, hD1⟩ := hJ
          generalize H1 = H at hP1 hS1 ⊢
          have hP : va_P (dC, dI) vwCl ([(qd, .inr (1, [.ref (AD 0), .ref ql, .ref qr])), (ql, .inr (2, figL z_48)), (qr, .inr (2, figL (X2_rememberAheadOfHits_w0 G))), (AD 0, .inr (5, [.int cnt, .ref (AD 1), .ref (AD 8)])), (AD 1, .inl (cY 2, 6, .inr (.inr (.inr (.inr (fun j => some (AD (2 + j))))))))] ++ bkM AD cY MV) H := hP1
          have hD : va_D A ([(qd, .inr (1, [.ref (AD 0), .ref ql, .ref qr])), (ql, .inr (2, figL z_48)), (qr, .inr (2, figL (X2_rememberAheadOfHits_w0 G))), (AD 0, .inr (5, [.int cnt, .ref (AD 1), .ref (AD 8)])), (AD 1, .inl (cY 2, 6, .inr (.inr (.inr (.inr (fun j => some (AD (2 + j))))))))] ++ bkM AD cY MV) := hD1
          have hS := hS1
          clear hP1 hD1 hS1
          obtain ⟨z_50, ez_50⟩ : ∃ z, z = (X2_rememberAheadOfHits_w0 G) := ⟨_, rfl⟩
          rw [← ez_50] at hP hD
          refine lv_iload_n hx hb dX1_strike_103 rfl (lv_at hl 1 rfl) ?_
          refine lv_if_eq (tgt := 119) hx hb dX1_strike_104 (by decide) (fun c_51 => ?_) (fun c_51 => ?_)
          · exact absurd c_51 c_5
          refine lv_aload_n hx hb dX1_strike_107 rfl (lv_at hl 4 rfl) ?_
          refine va_get (D := (dC, dI)) (ci := 1) (v := .ref ql) (C := RX1) (T := TX1) (N := 3) hx hb hts inw_X1_strike_X1 hown hK hP 0 rfl rfl 1 (by decide) (hts (.fieldLink RX1 14 "DuelFrames$Duel" "left" "LDuelFrames$Figure;") (List.mem_of_getElem? (i := 2) rfl)) (fun _ h9 => h9) rfl dX1_strike_108 ?_
          refine lv_aload_n hx hb dX1_strike_111 rfl (lv_at hl 3 rfl) ?_
          refine lv_aload_n hx hb dX1_strike_112 rfl (lv_at hl 4 rfl) ?_
          refine va_get (D := (dC, dI)) (ci := 1) (v := .ref qr) (C := RX1) (T := TX1) (N := 3) hx hb hts inw_X1_strike_X1 hown hK hP 0 rfl rfl 2 (by decide) (hts (.fieldLink RX1 20 "DuelFrames$Duel" "right" "LDuelFrames$Figure;") (List.mem_of_getElem? (i := 4) rfl)) (fun _ h9 => h9) rfl dX1_strike_113 ?_
          have hPc := hP.part (cx := [(ql, .inr (2, figL z_48)), (qr, .inr (2, figL z_50))]) [1, 2] rfl
          have hDc := hD.part (cx := [(ql, .inr (2, figL z_48)), (qr, .inr (2, figL z_50))]) [1, 2] (by decide) rfl
          have hFc := va_freeP (cx := [(ql, .inr (2, figL z_48)), (qr, .inr (2, figL z_50))]) (pl := bkM AD cY MV) hD hS hA [1, 2] rfl
          refine va_callv (va_runS (As := [.ref ql, .ref (AD (2 + (mi (F 5)))), .ref qr]) (rest := []) ⟨hx, hb, hml, hown, hts⟩ (c_X1_land l dC dI cY ql qr z_48 z_50 AD MV (mi (F 5)) (by (try simp only [ez_50, ez_48]); exact (mi_lt (F 5))) H.size) (va_cwS 3 hts gX1_strike_X1_land rfl rfl rfl (by decide +kernel) ⟨Nat.le_of_ble_eq_true rfl, Nat.le_of_ble_eq_true rfl⟩) ⟨blindW, fun U hU hW => ⟨rfl, wPre_of hPc hK hN hDc U hU hW⟩⟩ rfl rfl hl.1 rfl (lv_room (Nat.le_of_ble_eq_true rfl)) dX1_strike_116 ⟨Nat.zero_le _, Nat.zero_le _⟩) hS (fun q _ h => hFc q h) hFc (fun u t H1 locs ht hvm hw hB hz1 hk1 hS1 => ?_)
          have hJ := wJoinP (wr := [(qd, .inr (1, [.ref (AD 0), .ref ql, .ref qr])), (AD 0, .inr (5, [.int cnt, .ref (AD 1), .ref (AD 8)])), (AD 1, .inl (cY 2, 6, .inr (.inr (.inr (.inr (fun j => some (AD (2 + j))))))))]) (rx := [(ql, .inr (2, figL (X1_land_w0 z_48 z_50 MV (mi (F 5))))), (qr, .inr (2, figL (X1_land_w1 z_50 MV (mi (F 5)))))]) (wn := [(qd, .inr (1, [.ref (AD 0), .ref ql, .ref qr])), (ql, .inr (2, figL (X1_land_w0 z_48 z_50 MV (mi (F 5))))), (qr, .inr (2, figL (X1_land_w1 z_50 MV (mi (F 5))))), (AD 0, .inr (5, [.int cnt, .ref (AD 1), .ref (AD 8)])), (AD 1, .inl (cY 2, 6, .inr (.inr (.inr (.inr (fun j => some (AD (2 + j))))))))]) hP hD [1, 2] [0, 3, 4] rfl rfl (by decide) (by decide) hk1 hFc hB ht [0, 3, 4, 1, 2] rfl (by decide)
          clear hB hk1 hFc hPc hDc hP hD hS hz1 hvm ht t
          obtain ⟨hP1, hD1⟩ := hJ
          generalize H1 = H at hP1 hS1 ⊢
          have hP : va_P (dC, dI) vwCl ([(qd, .inr (1, [.ref (AD 0), .ref ql, .ref qr])), (ql, .inr (2, figL (X1_land_w0 z_48 z_50 MV (mi (F 5))))), (qr, .inr (2, figL (X1_land_w1 z_50 MV (mi (F 5))))), (AD 0, .inr (5, [.int cnt, .ref (AD 1), .ref (AD 8)])), (AD 1, .inl (cY 2, 6, .inr (.inr (.inr (.inr (fun j => some (AD (2 + j))))))))] ++ bkM AD cY MV) H := hP1
          have hD : va_D A ([(qd, .inr (1, [.ref (AD 0), .ref ql, .ref qr])), (ql, .inr (2, figL (X1_land_w0 z_48 z_50 MV (mi (F 5))))), (qr, .inr (2, figL (X1_land_w1 z_50 MV (mi (F 5))))), (AD 0, .inr (5, [.int cnt, .ref (AD 1), .ref (AD 8)])), (AD 1, .inl (cY 2, 6, .inr (.inr (.inr (.inr (fun j => some (AD (2 + j))))))))] ++ bkM AD cY MV) := hD1
          have hS := hS1
          clear hP1 hD1 hS1
          obtain ⟨z_53, ez_53⟩ : ∃ z, z = (X1_land_w0 z_48 z_50 MV (mi (F 5))) := ⟨_, rfl⟩
          rw [← ez_53] at hP hD
          obtain ⟨z_54, ez_54⟩ : ∃ z, z = (X1_land_w1 z_50 MV (mi (F 5))) := ⟨_, rfl⟩
          rw [← ez_54] at hP hD
          refine lv_iload hx hb dX1_strike_119 (lv_at hl 0 rfl) ?_
          refine lv_if_eq (tgt := 136) hx hb dX1_strike_121 (by decide) (fun c_55 => ?_) (fun c_55 => ?_)
          · exact absurd c_55 c_19
          refine lv_aload_n hx hb dX1_strike_124 rfl (lv_at hl 4 rfl) ?_
          refine va_get (D := (dC, dI)) (ci := 1) (v := .ref qr) (C := RX1) (T := TX1) (N := 3) hx hb hts inw_X1_strike_X1 hown hK hP 0 rfl rfl 2 (by decide) (hts (.fieldLink RX1 20 "DuelFrames$Duel" "right" "LDuelFrames$Figure;") (List.mem_of_getElem? (i := 4) rfl)) (fun _ h9 => h9) rfl dX1_strike_125 ?_
          refine lv_aload_n hx hb dX1_strike_128 rfl (lv_at hl 2 rfl) ?_
          refine lv_aload_n hx hb dX1_strike_129 rfl (lv_at hl 4 rfl) ?_
          refine va_get (D := (dC, dI)) (ci := 1) (v := .ref ql) (C := RX1) (T := TX1) (N := 3) hx hb hts inw_X1_strike_X1 hown hK hP 0 rfl rfl 1 (by decide) (hts (.fieldLink RX1 14 "DuelFrames$Duel" "left" "LDuelFrames$Figure;") (List.mem_of_getElem? (i := 2) rfl)) (fun _ h9 => h9) rfl dX1_strike_130 ?_
          have hPc := hP.part (cx := [(qr, .inr (2, figL z_54)), (ql, .inr (2, figL z_53))]) [2, 1] rfl
          have hDc := hD.part (cx := [(qr, .inr (2, figL z_54)), (ql, .inr (2, figL z_53))]) [2, 1] (by decide) rfl
          have hFc := va_freeP (cx := [(qr, .inr (2, figL z_54)), (ql, .inr (2, figL z_53))]) (pl := bkM AD cY MV) hD hS hA [2, 1] rfl
          refine va_callv (va_runS (As := [.ref qr, .ref (AD (2 + (mi (G 5)))), .ref ql]) (rest := []) ⟨hx, hb, hml, hown, hts⟩ (c_X1_land l dC dI cY qr ql z_54 z_53 AD MV (mi (G 5)) (by (try simp only [ez_54, ez_53, ez_50, ez_48]); exact (mi_lt (G 5))) H.size) (va_cwS 3 hts gX1_strike_X1_land rfl rfl rfl (by decide +kernel) ⟨Nat.le_of_ble_eq_true rfl, Nat.le_of_ble_eq_true rfl⟩) ⟨blindW, fun U hU hW => ⟨rfl, wPre_of hPc hK hN hDc U hU hW⟩⟩ rfl rfl hl.1 rfl (lv_room (Nat.le_of_ble_eq_true rfl)) dX1_strike_133 ⟨Nat.zero_le _, Nat.zero_le _⟩) hS (fun q _ h => hFc q h) hFc (fun u t H1 locs ht hvm hw hB hz1 hk1 hS1 => ?_)
          have hJ := wJoinP (wr := [(qd, .inr (1, [.ref (AD 0), .ref ql, .ref qr])), (AD 0, .inr (5, [.int cnt, .ref (AD 1), .ref (AD 8)])), (AD 1, .inl (cY 2, 6, .inr (.inr (.inr (.inr (fun j => some (AD (2 + j))))))))]) (rx := [(qr, .inr (2, figL (X1_land_w0 z_54 z_53 MV (mi (G 5))))), (ql, .inr (2, figL (X1_land_w1 z_53 MV (mi (G 5)))))]) (wn := [(qd, .inr (1, [.ref (AD 0), .ref ql, .ref qr])), (ql, .inr (2, figL (X1_land_w1 z_53 MV (mi (G 5))))), (qr, .inr (2, figL (X1_land_w0 z_54 z_53 MV (mi (G 5))))), (AD 0, .inr (5, [.int cnt, .ref (AD 1), .ref (AD 8)])), (AD 1, .inl (cY 2, 6, .inr (.inr (.inr (.inr (fun j => some (AD (2 + j))))))))]) hP hD [2, 1] [0, 3, 4] rfl rfl (by decide) (by decide) hk1 hFc hB ht [0, 4, 3, 1, 2] rfl (by decide)
          clear hB hk1 hFc hPc hDc hP hD hS hz1 hvm ht t
          obtain ⟨hP1, hD1⟩ := hJ
          generalize H1 = H at hP1 hS1 ⊢
          have hP : va_P (dC, dI) vwCl ([(qd, .inr (1, [.ref (AD 0), .ref ql, .ref qr])), (ql, .inr (2, figL (X1_land_w1 z_53 MV (mi (G 5))))), (qr, .inr (2, figL (X1_land_w0 z_54 z_53 MV (mi (G 5))))), (AD 0, .inr (5, [.int cnt, .ref (AD 1), .ref (AD 8)])), (AD 1, .inl (cY 2, 6, .inr (.inr (.inr (.inr (fun j => some (AD (2 + j))))))))] ++ bkM AD cY MV) H := hP1
          have hD : va_D A ([(qd, .inr (1, [.ref (AD 0), .ref ql, .ref qr])), (ql, .inr (2, figL (X1_land_w1 z_53 MV (mi (G 5))))), (qr, .inr (2, figL (X1_land_w0 z_54 z_53 MV (mi (G 5))))), (AD 0, .inr (5, [.int cnt, .ref (AD 1), .ref (AD 8)])), (AD 1, .inl (cY 2, 6, .inr (.inr (.inr (.inr (fun j => some (AD (2 + j))))))))] ++ bkM AD cY MV) := hD1
          have hS := hS1
          clear hP1 hD1 hS1
          obtain ⟨z_57, ez_57⟩ : ∃ z, z = (X1_land_w1 z_53 MV (mi (G 5))) := ⟨_, rfl⟩
          rw [← ez_57] at hP hD
          obtain ⟨z_58, ez_58⟩ : ∃ z, z = (X1_land_w0 z_54 z_53 MV (mi (G 5))) := ⟨_, rfl⟩
          rw [← ez_58] at hP hD
          have eo_59 : (X1_strike_w1 F G MV) = z_57 := by rw [X1_strike_w1]; simp only [← ez_48, ← ez_50, ← ez_53, ← ez_54, ← ez_57, ← ez_58, eq_false c_5, eq_false c_19, eq_true c_31, eq_false c_46, ↓reduceIte]
          have eo_60 : (X1_strike_w2 F G MV) = z_58 := by rw [X1_strike_w2]; simp only [← ez_48, ← ez_50, ← ez_53, ← ez_54, ← ez_57, ← ez_58, eq_false c_5, eq_false c_19, eq_true c_31, eq_false c_46, ↓reduceIte]
          have hP9 : va_P (dC, dI) vwCl ([(qd, .inr (1, [.ref (AD 0), .ref ql, .ref qr])), (ql, .inr (2, figL (X1_strike_w1 F G MV))), (qr, .inr (2, figL (X1_strike_w2 F G MV))), (AD 0, .inr (5, [.int cnt, .ref (AD 1), .ref (AD 8)])), (AD 1, .inl (cY 2, 6, .inr (.inr (.inr (.inr (fun j => some (AD (2 + j))))))))] ++ bkM AD cY MV) H := by simp only [eo_59, eo_60]; exact hP
          have hD9 : va_D A ([(qd, .inr (1, [.ref (AD 0), .ref ql, .ref qr])), (ql, .inr (2, figL (X1_strike_w1 F G MV))), (qr, .inr (2, figL (X1_strike_w2 F G MV))), (AD 0, .inr (5, [.int cnt, .ref (AD 1), .ref (AD 8)])), (AD 1, .inl (cY 2, 6, .inr (.inr (.inr (.inr (fun j => some (AD (2 + j))))))))] ++ bkM AD cY MV) := by simp only [eo_59, eo_60]; exact hD
          exact W.vret hx hb hr (fun t ht hW => ⟨⟨(), rfl, trivial, wPost_of hP9 hD9 ht⟩, hS.F ht⟩) hS.2.2 dX1_strike_136
        · refine lv_aload_n hx hb dX1_strike_84 rfl (lv_at hl 4 rfl) ?_
          have hPc := hP.sub (ws' := [(qd, .inr (1, [.ref (AD 0), .ref ql, .ref qr])), (ql, .inr (2, figL F)), (qr, .inr (2, figL G))]) [0, 1, 2] rfl
          have hDc := hD.sub (ws' := [(qd, .inr (1, [.ref (AD 0), .ref ql, .ref qr])), (ql, .inr (2, figL F)), (qr, .inr (2, figL G))]) [0, 1, 2] (by decide) rfl
          have hFc := va_free (wc := [(qd, .inr (1, [.ref (AD 0), .ref ql, .ref qr])), (ql, .inr (2, figL F)), (qr, .inr (2, figL G))]) hD hS hA [0, 1, 2] rfl
          refine va_callv (va_runV (As := []) (rest := []) ⟨hx, hb, hml, hown, hts⟩ (c_X1_part l dC dI cY qd (AD 0) ql qr F G s.heap.size) (cwV 0 hts gX1_strike_X1_part rfl rfl rfl (by decide +kernel) ⟨Nat.le_of_ble_eq_true rfl, Nat.le_of_ble_eq_true rfl⟩) ⟨blindW, va_recv hK hPc (ci := 1) (q0 := 0) rfl rfl, fun U hU hW => ⟨rfl, wPre_of hPc hK hN hDc U hU hW⟩⟩ rfl rfl hl.1 rfl (lv_room (Nat.le_of_ble_eq_true rfl)) dX1_strike_85 ⟨Nat.zero_le _, Nat.zero_le _⟩) hS (fun q _ h => hFc q h) hFc (fun u t H1 locs ht hvm hw hB hz1 hk1 hS1 => ?_)
          have hJ := wJoinQ (wr := [(AD 0, .inr (5, [.int cnt, .ref (AD 1), .ref (AD 8)])), (AD 1, .inl (cY 2, 6, .inr (.inr (.inr (.inr (fun j => some (AD (2 + j))))))))]) (w1 := [(qd, .inr (1, [.ref (AD 0), .ref ql, .ref qr])), (ql, .inr (2, figL (X1_part_w1 F))), (qr, .inr (2, figL (X1_part_w2 G)))]) (wn := [(qd, .inr (1, [.ref (AD 0), .ref ql, .ref qr])), (ql, .inr (2, figL (X1_part_w1 F))), (qr, .inr (2, figL (X1_part_w2 G))), (AD 0, .inr (5, [.int cnt, .ref (AD 1), .ref (AD 8)])), (AD 1, .inl (cY 2, 6, .inr (.inr (.inr (.inr (fun j => some (AD (2 + j))))))))]) hP hD [0, 1, 2] [3, 4] rfl rfl (by decide) (by decide) hk1 hFc hB ht [2, 3, 4, 0, 1] rfl (by decide)
          clear hB hk1 hFc hPc hDc hP hD hS hz1 hvm ht t
          obtain ⟨hP1, hD1⟩ := hJ
          generalize H1 = H at hP1 hS1 ⊢
          have hP : va_P (dC, dI) vwCl ([(qd, .inr (1, [.ref (AD 0), .ref ql, .ref qr])), (ql, .inr (2, figL (X1_part_w1 F))), (qr, .inr (2, figL (X1_part_w2 G))), (AD 0, .inr (5, [.int cnt, .ref (AD 1), .ref (AD 8)])), (AD 1, .inl (cY 2, 6, .inr (.inr (.inr (.inr (fun j => some (AD (2 + j))))))))] ++ bkM AD cY MV) H := hP1
          have hD : va_D A ([(qd, .inr (1, [.ref (AD 0), .ref ql, .ref qr])), (ql, .inr (2, figL (X1_part_w1 F))), (qr, .inr (2, figL (X1_part_w2 G))), (AD 0, .inr (5, [.int cnt, .ref (AD 1), .ref (AD 8)])), (AD 1, .inl (cY 2, 6, .inr (.inr (.inr (.inr (fun j => some (AD (2 + j))))))))] ++ bkM AD cY MV) := hD1
          have hS := hS1
          clear hP1 hD1 hS1
          obtain ⟨z_62, ez_62⟩ : ∃ z, z = (X1_part_w1 F) := ⟨_, rfl⟩
          rw [← ez_62] at hP hD
          obtain ⟨z_63, ez_63⟩ : ∃ z, z = (X1_part_w2 G) := ⟨_, rfl⟩
          rw [← ez_63] at hP hD
          have eo_64 : (X1_strike_w1 F G MV) = z_62 := by rw [X1_strike_w1]; simp only [← ez_62, ← ez_63, eq_false c_5, eq_false c_19, eq_true c_31, eq_true c_46, ↓reduceIte]
          have eo_65 : (X1_strike_w2 F G MV) = z_63 := by rw [X1_strike_w2]; simp only [← ez_62, ← ez_63, eq_false c_5, eq_false c_19, eq_true c_31, eq_true c_46, ↓reduceIte]
          have hP9 : va_P (dC, dI) vwCl ([(qd, .inr (1, [.ref (AD 0), .ref ql, .ref qr])), (ql, .inr (2, figL (X1_strike_w1 F G MV))), (qr, .inr (2, figL (X1_strike_w2 F G MV))), (AD 0, .inr (5, [.int cnt, .ref (AD 1), .ref (AD 8)])), (AD 1, .inl (cY 2, 6, .inr (.inr (.inr (.inr (fun j => some (AD (2 + j))))))))] ++ bkM AD cY MV) H := by simp only [eo_64, eo_65]; exact hP
          have hD9 : va_D A ([(qd, .inr (1, [.ref (AD 0), .ref ql, .ref qr])), (ql, .inr (2, figL (X1_strike_w1 F G MV))), (qr, .inr (2, figL (X1_strike_w2 F G MV))), (AD 0, .inr (5, [.int cnt, .ref (AD 1), .ref (AD 8)])), (AD 1, .inl (cY 2, 6, .inr (.inr (.inr (.inr (fun j => some (AD (2 + j))))))))] ++ bkM AD cY MV) := by simp only [eo_64, eo_65]; exact hD
          exact W.vret hx hb hr (fun t ht hW => ⟨⟨(), rfl, trivial, wPost_of hP9 hD9 ht⟩, hS.F ht⟩) hS.2.2 dX1_strike_88
theorem inw_X1_playFrame_X1 : ∀ w ∈ u_ws RX1 TX1 3, w ∈ wsX1_playFrame := fun _ h => List.mem_cons_of_mem _ (List.mem_append_left _ (List.mem_append_left _ (List.mem_append_left _ (List.mem_append_right _ h))))
def X1_playFrame_w1 (F : Nat → Int32) (G : Nat → Int32) (MV : Nat → Nat → Int32) (one : Int32) (two : Int32) : Nat → Int32 := (X2_endFrame_w0 (X1_strike_w1 (X1_walk_w1 (X2_beginKept_w0 (X2_take_w0 F one) MV) (X2_beginKept_w0 (X2_take_w0 G two) MV)) (X1_walk_w2 (X2_beginKept_w0 (X2_take_w0 F one) MV) (X2_beginKept_w0 (X2_take_w0 G two) MV)) MV) MV)
def X1_playFrame_w2 (F : Nat → Int32) (G : Nat → Int32) (MV : Nat → Nat → Int32) (one : Int32) (two : Int32) : Nat → Int32 := (X2_endFrame_w0 (X1_strike_w2 (X1_walk_w1 (X2_beginKept_w0 (X2_take_w0 F one) MV) (X2_beginKept_w0 (X2_take_w0 G two) MV)) (X1_walk_w2 (X2_beginKept_w0 (X2_take_w0 F one) MV) (X2_beginKept_w0 (X2_take_w0 G two) MV)) MV) MV)
set_option maxHeartbeats 4000000 in
set_option maxRecDepth 100000 in
theorem c_X1_playFrame (l : Launch) (dC : Nat → ClassId) (dI : Nat → Nat → Nat) (cY : Nat → ClassId) (qd : Nat) (ql : Nat) (qr : Nat) (F : Nat → Int32) (G : Nat → Int32) (AD : Nat → Nat) (cnt : Int32) (MV : Nat → Nat → Int32) (one : Int32) (two : Int32)  (sz : Nat) : Met l yX1_playFrame wsX1_playFrame ({ frames := 4, cells := 0, slots := 0, locals := 92 } : Room) (va_Pc [.ref qd, .int one, .int two] (wPre (dC, dI) (tyL cY) ([(qd, .inr (1, [.ref (AD 0), .ref ql, .ref qr])), (ql, .inr (2, figL F)), (qr, .inr (2, figL G)), (AD 0, .inr (5, [.int cnt, .ref (AD 1), .ref (AD 8)])), (AD 1, .inl (cY 2, 6, .inr (.inr (.inr (.inr (fun j => some (AD (2 + j))))))))] ++ bkM AD cY MV) sz)) (va_Qv (fun _ : Unit => True) (wPost (dC, dI) ([(qd, .inr (1, [.ref (AD 0), .ref ql, .ref qr])), (ql, .inr (2, figL (X1_playFrame_w1 F G MV one two))), (qr, .inr (2, figL (X1_playFrame_w2 F G MV one two))), (AD 0, .inr (5, [.int cnt, .ref (AD 1), .ref (AD 8)])), (AD 1, .inl (cY 2, 6, .inr (.inr (.inr (.inr (fun j => some (AD (2 + j))))))))] ++ bkM AD cY MV) (va_A ([(qd, .inr (1, [.ref (AD 0), .ref ql, .ref qr])), (ql, .inr (2, figL F)), (qr, .inr (2, figL G)), (AD 0, .inr (5, [.int cnt, .ref (AD 1), .ref (AD 8)])), (AD 1, .inl (cY 2, 6, .inr (.inr (.inr (.inr (fun j => some (AD (2 + j))))))))] ++ bkM AD cY MV) sz)) (va_A ([(qd, .inr (1, [.ref (AD 0), .ref ql, .ref qr])), (ql, .inr (2, figL F)), (qr, .inr (2, figL G)), (AD 0, .inr (5, [.int cnt, .ref (AD 1), .ref (AD 8)])), (AD 1, .inl (cY 2, 6, .inr (.inr (.inr (.inr (fun j => some (AD (2 + j))))))))] ++ bkM AD cY MV) sz)) 0 0 (va_A ([(qd, .inr (1, [.ref (AD 0), .ref ql, .ref qr])), (ql, .inr (2, figL F)), (qr, .inr (2, figL G)), (AD 0, .inr (5, [.int cnt, .ref (AD 1), .ref (AD 8)])), (AD 1, .inl (cY 2, 6, .inr (.inr (.inr (.inr (fun j => some (AD (2 + j))))))))] ++ bkM AD cY MV) sz) := by
  refine Met.ofW (cc := cX1_playFrame) (maxL := 3) (ret := none) (by decide) rfl ?_
  intro p e s m args below meth c s₁ B hml hv
  obtain ⟨rfl, hsz, hP, hK, hN, hD0⟩ := hv
  have hx := B.exec
  have hb := B.bytes
  have hr := B.returns
  have hts := atoms_spec (ws := wsX1_playFrame) B.pre
  have hown : s.vm.findClass RX1 = some m.cls := findClass_of_methodNamed B.named
  have hlocks := B.notSynchronized
  subst hsz
  have hD := hD0.self (sz := s.heap.size)
  generalize hAe : va_A ([(qd, .inr (1, [.ref (AD 0), .ref ql, .ref qr])), (ql, .inr (2, figL F)), (qr, .inr (2, figL G)), (AD 0, .inr (5, [.int cnt, .ref (AD 1), .ref (AD 8)])), (AD 1, .inl (cY 2, 6, .inr (.inr (.inr (.inr (fun j => some (AD (2 + j))))))))] ++ bkM AD cY MV) s.heap.size = A at hD ⊢
  have hA : ∀ q : Nat, s.heap.size ≤ q → A q := fun q h => by rw [← hAe]; exact Or.inr h
  have hS : va_S A s.heap s.heap [] := va_S.rf
  have hP : va_P (dC, dI) vwCl ([(qd, .inr (1, [.ref (AD 0), .ref ql, .ref qr])), (ql, .inr (2, figL F)), (qr, .inr (2, figL G)), (AD 0, .inr (5, [.int cnt, .ref (AD 1), .ref (AD 8)])), (AD 1, .inl (cY 2, 6, .inr (.inr (.inr (.inr (fun j => some (AD (2 + j))))))))] ++ bkM AD cY MV) s.heap := hP
  have hl := lv_entry ([.ref qd, .int one, .int two]) (n := 3) (Nat.le_of_ble_eq_true rfl)
  rw [lg_entry_eq]
  generalize (lg_sl ([.ref qd, .int one, .int two]) ++ List.replicate (3 - (lg_sl ([.ref qd, .int one, .int two])).length) Slot.unset).toArray = ls at hl ⊢
  have hl : lv_has ls 3 [(0, .ref qd), (1, .int one), (2, .int two)] := hl
  refine lv_aload_n hx hb dX1_playFrame_0 rfl (lv_at hl 0 rfl) ?_
  refine va_get (D := (dC, dI)) (ci := 1) (v := .ref ql) (C := RX1) (T := TX1) (N := 3) hx hb hts inw_X1_playFrame_X1 hown hK hP 0 rfl rfl 1 (by decide) (hts (.fieldLink RX1 14 "DuelFrames$Duel" "left" "LDuelFrames$Figure;") (List.mem_of_getElem? (i := 1) rfl)) (fun _ h9 => h9) rfl dX1_playFrame_1 ?_
  refine lv_iload_n hx hb dX1_playFrame_4 rfl (lv_at hl 1 rfl) ?_
  have hPc := hP.sub (ws' := [(ql, .inr (2, figL F))]) [1] rfl
  have hDc := hD.sub (ws' := [(ql, .inr (2, figL F))]) [1] (by decide) rfl
  have hFc := va_free (wc := [(ql, .inr (2, figL F))]) hD hS hA [1] rfl
  refine va_callv (va_runV (As := [.int one]) (rest := []) ⟨hx, hb, hml, hown, hts⟩ (c_X2_take l dC dI cY ql F one s.heap.size) (cwV 1 hts gX1_playFrame_X2_take rfl rfl rfl (by decide +kernel) ⟨Nat.le_of_ble_eq_true rfl, Nat.le_of_ble_eq_true rfl⟩) ⟨blindW, va_recv hK hPc (ci := 2) (q0 := 0) rfl rfl, fun U hU hW => ⟨rfl, wPre_of hPc hK hN hDc U hU hW⟩⟩ rfl rfl hl.1 rfl (lv_room (Nat.le_of_ble_eq_true rfl)) dX1_playFrame_5 ⟨Nat.zero_le _, Nat.zero_le _⟩) hS (fun q _ h => hFc q h) hFc (fun u t H1 locs ht hvm hw hB hz1 hk1 hS1 => ?_)
  have hJ := wJoinQ (wr := [(qd, .inr (1, [.ref (AD 0), .ref ql, .ref qr])), (qr, .inr (2, figL G)), (AD 0, .inr (5, [.int cnt, .ref (AD 1), .ref (AD 8)])), (AD 1, .inl (cY 2, 6, .inr (.inr (.inr (.inr (fun j => some (AD (2 + j))))))))]) (w1 := [(ql, .inr (2, figL (X2_take_w0 F one)))]) (wn := [(qd, .inr (1, [.ref (AD 0), .ref ql, .ref qr])), (ql, .inr (2, figL (X2_take_w0 F one))), (qr, .inr (2, figL G)), (AD 0, .inr (5, [.int cnt, .ref (AD 1), .ref (AD 8)])), (AD 1, .inl (cY 2, 6, .inr (.inr (.inr (.inr (fun j => some (AD (2 + j))))))))]) hP hD [1] [0, 2, 3, 4] rfl rfl (by decide) (by decide) hk1 hFc hB ht [0, 4, 1, 2, 3] rfl (by decide)
  clear hB hk1 hFc hPc hDc hP hD hS hz1 hvm ht t
  obtain ⟨hP1, hD1⟩ := hJ
  generalize H1 = H at hP1 hS1 ⊢
  have hP : va_P (dC, dI) vwCl ([(qd, .inr (1, [.ref (AD 0), .ref ql, .ref qr])), (ql, .inr (2, figL (X2_take_w0 F one))), (qr, .inr (2, figL G)), (AD 0, .inr (5, [.int cnt, .ref (AD 1), .ref (AD 8)])), (AD 1, .inl (cY 2, 6, .inr (.inr (.inr (.inr (fun j => some (AD (2 + j))))))))] ++ bkM AD cY MV) H := hP1
  have hD : va_D A ([(qd, .inr (1, [.ref (AD 0), .ref ql, .ref qr])), (ql, .inr (2, figL (X2_take_w0 F one))), (qr, .inr (2, figL G)), (AD 0, .inr (5, [.int cnt, .ref (AD 1), .ref (AD 8)])), (AD 1, .inl (cY 2, 6, .inr (.inr (.inr (.inr (fun j => some (AD (2 + j))))))))] ++ bkM AD cY MV) := hD1
  have hS := hS1
  clear hP1 hD1 hS1
  obtain ⟨z_2, ez_2⟩ : ∃ z, z = (X2_take_w0 F one) := ⟨_, rfl⟩
  rw [← ez_2] at hP hD
  refine lv_aload_n hx hb dX1_playFrame_8 rfl (lv_at hl 0 rfl) ?_
  refine va_get (D := (dC, dI)) (ci := 1) (v := .ref qr) (C := RX1) (T := TX1) (N := 3) hx hb hts inw_X1_playFrame_X1 hown hK hP 0 rfl rfl 2 (by decide) (hts (.fieldLink RX1 20 "DuelFrames$Duel" "right" "LDuelFrames$Figure;") (List.mem_of_getElem? (i := 2) rfl)) (fun _ h9 => h9) rfl dX1_playFrame_9 ?_
  refine lv_iload_n hx hb dX1_playFrame_12 rfl (lv_at hl 2 rfl) ?_
  have hPc := hP.sub (ws' := [(qr, .inr (2, figL G))]) [2] rfl
  have hDc := hD.sub (ws' := [(qr, .inr (2, figL G))]) [2] (by decide) rfl
  have hFc := va_free (wc := [(qr, .inr (2, figL G))]) hD hS hA [2] rfl
  refine va_callv (va_runV (As := [.int two]) (rest := []) ⟨hx, hb, hml, hown, hts⟩ (c_X2_take l dC dI cY qr G two H.size) (cwV 1 hts gX1_playFrame_X2_take rfl rfl rfl (by decide +kernel) ⟨Nat.le_of_ble_eq_true rfl, Nat.le_of_ble_eq_true rfl⟩) ⟨blindW, va_recv hK hPc (ci := 2) (q0 := 0) rfl rfl, fun U hU hW => ⟨rfl, wPre_of hPc hK hN hDc U hU hW⟩⟩ rfl rfl hl.1 rfl (lv_room (Nat.le_of_ble_eq_true rfl)) dX1_playFrame_13 ⟨Nat.zero_le _, Nat.zero_le _⟩) hS (fun q _ h => hFc q h) hFc (fun u t H1 locs ht hvm hw hB hz1 hk1 hS1 => ?_)
  have hJ := wJoinQ (wr := [(qd, .inr (1, [.ref (AD 0), .ref ql, .ref qr])), (ql, .inr (2, figL z_2)), (AD 0, .inr (5, [.int cnt, .ref (AD 1), .ref (AD 8)])), (AD 1, .inl (cY 2, 6, .inr (.inr (.inr (.inr (fun j => some (AD (2 + j))))))))]) (w1 := [(qr, .inr (2, figL (X2_take_w0 G two)))]) (wn := [(qd, .inr (1, [.ref (AD 0), .ref ql, .ref qr])), (ql, .inr (2, figL z_2)), (qr, .inr (2, figL (X2_take_w0 G two))), (AD 0, .inr (5, [.int cnt, .ref (AD 1), .ref (AD 8)])), (AD 1, .inl (cY 2, 6, .inr (.inr (.inr (.inr (fun j => some (AD (2 + j))))))))]) hP hD [2] [0, 1, 3, 4] rfl rfl (by decide) (by decide) hk1 hFc hB ht [0, 1, 4, 2, 3] rfl (by decide)
  clear hB hk1 hFc hPc hDc hP hD hS hz1 hvm ht t
  obtain ⟨hP1, hD1⟩ := hJ
  generalize H1 = H at hP1 hS1 ⊢
  have hP : va_P (dC, dI) vwCl ([(qd, .inr (1, [.ref (AD 0), .ref ql, .ref qr])), (ql, .inr (2, figL z_2)), (qr, .inr (2, figL (X2_take_w0 G two))), (AD 0, .inr (5, [.int cnt, .ref (AD 1), .ref (AD 8)])), (AD 1, .inl (cY 2, 6, .inr (.inr (.inr (.inr (fun j => some (AD (2 + j))))))))] ++ bkM AD cY MV) H := hP1
  have hD : va_D A ([(qd, .inr (1, [.ref (AD 0), .ref ql, .ref qr])), (ql, .inr (2, figL z_2)), (qr, .inr (2, figL (X2_take_w0 G two))), (AD 0, .inr (5, [.int cnt, .ref (AD 1), .ref (AD 8)])), (AD 1, .inl (cY 2, 6, .inr (.inr (.inr (.inr (fun j => some (AD (2 + j))))))))] ++ bkM AD cY MV) := hD1
  have hS := hS1
  clear hP1 hD1 hS1
  obtain ⟨z_4, ez_4⟩ : ∃ z, z = (X2_take_w0 G two) := ⟨_, rfl⟩
  rw [← ez_4] at hP hD
  refine lv_aload_n hx hb dX1_playFrame_16 rfl (lv_at hl 0 rfl) ?_
  refine va_get (D := (dC, dI)) (ci := 1) (v := .ref ql) (C := RX1) (T := TX1) (N := 3) hx hb hts inw_X1_playFrame_X1 hown hK hP 0 rfl rfl 1 (by decide) (hts (.fieldLink RX1 14 "DuelFrames$Duel" "left" "LDuelFrames$Figure;") (List.mem_of_getElem? (i := 1) rfl)) (fun _ h9 => h9) rfl dX1_playFrame_17 ?_
  refine lv_aload_n hx hb dX1_playFrame_20 rfl (lv_at hl 0 rfl) ?_
  refine va_get (D := (dC, dI)) (ci := 1) (v := .ref (AD 0)) (C := RX1) (T := TX1) (N := 3) hx hb hts inw_X1_playFrame_X1 hown hK hP 0 rfl rfl 0 (by decide) (hts (.fieldLink RX1 23 "DuelFrames$Duel" "moves" "LDuelFrames$MoveList;") (List.mem_of_getElem? (i := 3) rfl)) (fun _ h9 => h9) rfl dX1_playFrame_21 ?_
  have hPc := hP.part (cx := [(ql, .inr (2, figL z_2)), (AD 0, .inr (5, [.int cnt, .ref (AD 1), .ref (AD 8)])), (AD 1, .inl (cY 2, 6, .inr (.inr (.inr (.inr (fun j => some (AD (2 + j))))))))]) [1, 3, 4] rfl
  have hDc := hD.part (cx := [(ql, .inr (2, figL z_2)), (AD 0, .inr (5, [.int cnt, .ref (AD 1), .ref (AD 8)])), (AD 1, .inl (cY 2, 6, .inr (.inr (.inr (.inr (fun j => some (AD (2 + j))))))))]) [1, 3, 4] (by decide) rfl
  have hFc := va_freeP (cx := [(ql, .inr (2, figL z_2)), (AD 0, .inr (5, [.int cnt, .ref (AD 1), .ref (AD 8)])), (AD 1, .inl (cY 2, 6, .inr (.inr (.inr (.inr (fun j => some (AD (2 + j))))))))]) (pl := bkM AD cY MV) hD hS hA [1, 3, 4] rfl
  refine va_callv (va_runV (As := [.ref (AD 0)]) (rest := []) ⟨hx, hb, hml, hown, hts⟩ (c_X2_beginKept l dC dI cY ql z_2 AD cnt MV H.size) (cwV 1 hts gX1_playFrame_X2_beginKept rfl rfl rfl (by decide +kernel) ⟨Nat.le_of_ble_eq_true rfl, Nat.le_of_ble_eq_true rfl⟩) ⟨blindW, va_recv hK hPc (ci := 2) (q0 := 0) rfl rfl, fun U hU hW => ⟨rfl, wPre_of hPc hK hN hDc U hU hW⟩⟩ rfl rfl hl.1 rfl (lv_room (Nat.le_of_ble_eq_true rfl)) dX1_playFrame_24 ⟨Nat.zero_le _, Nat.zero_le _⟩) hS (fun q _ h => hFc q h) hFc (fun u t H1 locs ht hvm hw hB hz1 hk1 hS1 => ?_)
  have hJ := wJoinP (wr := [(qd, .inr (1, [.ref (AD 0), .ref ql, .ref qr])), (qr, .inr (2, figL z_4))]) (rx := [(ql, .inr (2, figL (X2_beginKept_w0 z_2 MV))), (AD 0, .inr (5, [.int cnt, .ref (AD 1), .ref (AD 8)])), (AD 1, .inl (cY 2, 6, .inr (.inr (.inr (.inr (fun j => some (AD (2 + j))))))))]) (wn := [(qd, .inr (1, [.ref (AD 0), .ref ql, .ref qr])), (ql, .inr (2, figL (X2_beginKept_w0 z_2 MV))), (qr, .inr (2, figL z_4)), (AD 0, .inr (5, [.int cnt, .ref (AD 1), .ref (AD 8)])), (AD 1, .inl (cY 2, 6, .inr (.inr (.inr (.inr (fun j => some (AD (2 + j))))))))]) hP hD [1, 3, 4] [0, 2] rfl rfl (by decide) (by decide) hk1 hFc hB ht [0, 2, 1, 3, 4] rfl (by decide)
  clear hB hk1 hFc hPc hDc hP hD hS hz1 hvm ht t
  obtain ⟨hP1, hD1⟩ := hJ
  generalize H1 = H at hP1 hS1 ⊢
  have hP : va_P (dC, dI) vwCl ([(qd, .inr (1, [.ref (AD 0), .ref ql, .ref qr])), (ql, .inr (2, figL (X2_beginKept_w0 z_2 MV))), (qr, .inr (2, figL z_4)), (AD 0, .inr (5, [.int cnt, .ref (AD 1), .ref (AD 8)])), (AD 1, .inl (cY 2, 6, .inr (.inr (.inr (.inr (fun j => some (AD (2 + j))))))))] ++ bkM AD cY MV) H := hP1
  have hD : va_D A ([(qd, .inr (1, [.ref (AD 0), .ref ql, .ref qr])), (ql, .inr (2, figL (X2_beginKept_w0 z_2 MV))), (qr, .inr (2, figL z_4)), (AD 0, .inr (5, [.int cnt, .ref (AD 1), .ref (AD 8)])), (AD 1, .inl (cY 2, 6, .inr (.inr (.inr (.inr (fun j => some (AD (2 + j))))))))] ++ bkM AD cY MV) := hD1
  have hS := hS1
  clear hP1 hD1 hS1
  obtain ⟨z_6, ez_6⟩ : ∃ z, z = (X2_beginKept_w0 z_2 MV) := ⟨_, rfl⟩
  rw [← ez_6] at hP hD
  refine lv_aload_n hx hb dX1_playFrame_27 rfl (lv_at hl 0 rfl) ?_
  refine va_get (D := (dC, dI)) (ci := 1) (v := .ref qr) (C := RX1) (T := TX1) (N := 3) hx hb hts inw_X1_playFrame_X1 hown hK hP 0 rfl rfl 2 (by decide) (hts (.fieldLink RX1 20 "DuelFrames$Duel" "right" "LDuelFrames$Figure;") (List.mem_of_getElem? (i := 2) rfl)) (fun _ h9 => h9) rfl dX1_playFrame_28 ?_
  refine lv_aload_n hx hb dX1_playFrame_31 rfl (lv_at hl 0 rfl) ?_
  refine va_get (D := (dC, dI)) (ci := 1) (v := .ref (AD 0)) (C := RX1) (T := TX1) (N := 3) hx hb hts inw_X1_playFrame_X1 hown hK hP 0 rfl rfl 0 (by decide) (hts (.fieldLink RX1 23 "DuelFrames$Duel" "moves" "LDuelFrames$MoveList;") (List.mem_of_getElem? (i := 3) rfl)) (fun _ h9 => h9) rfl dX1_playFrame_32 ?_
  have hPc := hP.part (cx := [(qr, .inr (2, figL z_4)), (AD 0, .inr (5, [.int cnt, .ref (AD 1), .ref (AD 8)])), (AD 1, .inl (cY 2, 6, .inr (.inr (.inr (.inr (fun j => some (AD (2 + j))))))))]) [2, 3, 4] rfl
  have hDc := hD.part (cx := [(qr, .inr (2, figL z_4)), (AD 0, .inr (5, [.int cnt, .ref (AD 1), .ref (AD 8)])), (AD 1, .inl (cY 2, 6, .inr (.inr (.inr (.inr (fun j => some (AD (2 + j))))))))]) [2, 3, 4] (by decide) rfl
  have hFc := va_freeP (cx := [(qr, .inr (2, figL z_4)), (AD 0, .inr (5, [.int cnt, .ref (AD 1), .ref (AD 8)])), (AD 1, .inl (cY 2, 6, .inr (.inr (.inr (.inr (fun j => some (AD (2 + j))))))))]) (pl := bkM AD cY MV) hD hS hA [2, 3, 4] rfl
  refine va_callv (va_runV (As := [.ref (AD 0)]) (rest := []) ⟨hx, hb, hml, hown, hts⟩ (c_X2_beginKept l dC dI cY qr z_4 AD cnt MV H.size) (cwV 1 hts gX1_playFrame_X2_beginKept rfl rfl rfl (by decide +kernel) ⟨Nat.le_of_ble_eq_true rfl, Nat.le_of_ble_eq_true rfl⟩) ⟨blindW, va_recv hK hPc (ci := 2) (q0 := 0) rfl rfl, fun U hU hW => ⟨rfl, wPre_of hPc hK hN hDc U hU hW⟩⟩ rfl rfl hl.1 rfl (lv_room (Nat.le_of_ble_eq_true rfl)) dX1_playFrame_35 ⟨Nat.zero_le _, Nat.zero_le _⟩) hS (fun q _ h => hFc q h) hFc (fun u t H1 locs ht hvm hw hB hz1 hk1 hS1 => ?_)
  have hJ := wJoinP (wr := [(qd, .inr (1, [.ref (AD 0), .ref ql, .ref qr])), (ql, .inr (2, figL z_6))]) (rx := [(qr, .inr (2, figL (X2_beginKept_w0 z_4 MV))), (AD 0, .inr (5, [.int cnt, .ref (AD 1), .ref (AD 8)])), (AD 1, .inl (cY 2, 6, .inr (.inr (.inr (.inr (fun j => some (AD (2 + j))))))))]) (wn := [(qd, .inr (1, [.ref (AD 0), .ref ql, .ref qr])), (ql, .inr (2, figL z_6)), (qr, .inr (2, figL (X2_beginKept_w0 z_4 MV))), (AD 0, .inr (5, [.int cnt, .ref (AD 1), .ref (AD 8)])), (AD 1, .inl (cY 2, 6, .inr (.inr (.inr (.inr (fun j => some (AD (2 + j))))))))]) hP hD [2, 3, 4] [0, 1] rfl rfl (by decide) (by decide) hk1 hFc hB ht [0, 1, 2, 3, 4] rfl (by decide)
  clear hB hk1 hFc hPc hDc hP hD hS hz1 hvm ht t
  obtain ⟨hP1, hD1⟩ := hJ
  generalize H1 = H at hP1 hS1 ⊢
  have hP : va_P (dC, dI) vwCl ([(qd, .inr (1, [.ref (AD 0), .ref ql, .ref qr])), (ql, .inr (2, figL z_6)), (qr, .inr (2, figL (X2_beginKept_w0 z_4 MV))), (AD 0, .inr (5, [.int cnt, .ref (AD 1), .ref (AD 8)])), (AD 1, .inl (cY 2, 6, .inr (.inr (.inr (.inr (fun j => some (AD (2 + j))))))))] ++ bkM AD cY MV) H := hP1
  have hD : va_D A ([(qd, .inr (1, [.ref (AD 0), .ref ql, .ref qr])), (ql, .inr (2, figL z_6)), (qr, .inr (2, figL (X2_beginKept_w0 z_4 MV))), (AD 0, .inr (5, [.int cnt, .ref (AD 1), .ref (AD 8)])), (AD 1, .inl (cY 2, 6, .inr (.inr (.inr (.inr (fun j => some (AD (2 + j))))))))] ++ bkM AD cY MV) := hD1
  have hS := hS1
  clear hP1 hD1 hS1
  obtain ⟨z_8, ez_8⟩ : ∃ z, z = (X2_beginKept_w0 z_4 MV) := ⟨_, rfl⟩
  rw [← ez_8] at hP hD
  refine lv_aload_n hx hb dX1_playFrame_38 rfl (lv_at hl 0 rfl) ?_
  have hPc := hP.sub (ws' := [(qd, .inr (1, [.ref (AD 0), .ref ql, .ref qr])), (ql, .inr (2, figL z_6)), (qr, .inr (2, figL z_8))]) [0, 1, 2] rfl
  have hDc := hD.sub (ws' := [(qd, .inr (1, [.ref (AD 0), .ref ql, .ref qr])), (ql, .inr (2, figL z_6)), (qr, .inr (2, figL z_8))]) [0, 1, 2] (by decide) rfl
  have hFc := va_free (wc := [(qd, .inr (1, [.ref (AD 0), .ref ql, .ref qr])), (ql, .inr (2, figL z_6)), (qr, .inr (2, figL z_8))]) hD hS hA [0, 1, 2] rfl
  refine va_callv (va_runV (As := []) (rest := []) ⟨hx, hb, hml, hown, hts⟩ (c_X1_walk l dC dI cY qd (AD 0) ql qr z_6 z_8 H.size) (cwV 0 hts gX1_playFrame_X1_walk rfl rfl rfl (by decide +kernel) ⟨Nat.le_of_ble_eq_true rfl, Nat.le_of_ble_eq_true rfl⟩) ⟨blindW, va_recv hK hPc (ci := 1) (q0 := 0) rfl rfl, fun U hU hW => ⟨rfl, wPre_of hPc hK hN hDc U hU hW⟩⟩ rfl rfl hl.1 rfl (lv_room (Nat.le_of_ble_eq_true rfl)) dX1_playFrame_39 ⟨Nat.zero_le _, Nat.zero_le _⟩) hS (fun q _ h => hFc q h) hFc (fun u t H1 locs ht hvm hw hB hz1 hk1 hS1 => ?_)
  have hJ := wJoinQ (wr := [(AD 0, .inr (5, [.int cnt, .ref (AD 1), .ref (AD 8)])), (AD 1, .inl (cY 2, 6, .inr (.inr (.inr (.inr (fun j => some (AD (2 + j))))))))]) (w1 := [(qd, .inr (1, [.ref (AD 0), .ref ql, .ref qr])), (ql, .inr (2, figL (X1_walk_w1 z_6 z_8))), (qr, .inr (2, figL (X1_walk_w2 z_6 z_8)))]) (wn := [(qd, .inr (1, [.ref (AD 0), .ref ql, .ref qr])), (ql, .inr (2, figL (X1_walk_w1 z_6 z_8))), (qr, .inr (2, figL (X1_walk_w2 z_6 z_8))), (AD 0, .inr (5, [.int cnt, .ref (AD 1), .ref (AD 8)])), (AD 1, .inl (cY 2, 6, .inr (.inr (.inr (.inr (fun j => some (AD (2 + j))))))))]) hP hD [0, 1, 2] [3, 4] rfl rfl (by decide) (by decide) hk1 hFc hB ht [2, 3, 4, 0, 1] rfl (by decide)
  clear hB hk1 hFc hPc hDc hP hD hS hz1 hvm ht t
  obtain ⟨hP1, hD1⟩ := hJ
  generalize H1 = H at hP1 hS1 ⊢
  have hP : va_P (dC, dI) vwCl ([(qd, .inr (1, [.ref (AD 0), .ref ql, .ref qr])), (ql, .inr (2, figL (X1_walk_w1 z_6 z_8))), (qr, .inr (2, figL (X1_walk_w2 z_6 z_8))), (AD 0, .inr (5, [.int cnt, .ref (AD 1), .ref (AD 8)])), (AD 1, .inl (cY 2, 6, .inr (.inr (.inr (.inr (fun j => some (AD (2 + j))))))))] ++ bkM AD cY MV) H := hP1
  have hD : va_D A ([(qd, .inr (1, [.ref (AD 0), .ref ql, .ref qr])), (ql, .inr (2, figL (X1_walk_w1 z_6 z_8))), (qr, .inr (2, figL (X1_walk_w2 z_6 z_8))), (AD 0, .inr (5, [.int cnt, .ref (AD 1), .ref (AD 8)])), (AD 1, .inl (cY 2, 6, .inr (.inr (.inr (.inr (fun j => some (AD (2 + j))))))))] ++ bkM AD cY MV) := hD1
  have hS := hS1
  clear hP1 hD1 hS1
  obtain ⟨z_10, ez_10⟩ : ∃ z, z = (X1_walk_w1 z_6 z_8) := ⟨_, rfl⟩
  rw [← ez_10] at hP hD
  obtain ⟨z_11, ez_11⟩ : ∃ z, z = (X1_walk_w2 z_6 z_8) := ⟨_, rfl⟩
  rw [← ez_11] at hP hD
  refine lv_aload_n hx hb dX1_playFrame_42 rfl (lv_at hl 0 rfl) ?_
  have hPc := hP.part (cx := [(qd, .inr (1, [.ref (AD 0), .ref ql, .ref qr])), (ql, .inr (2, figL z_10)), (qr, .inr (2, figL z_11)), (AD 0, .inr (5, [.int cnt, .ref (AD 1), .ref (AD 8)])), (AD 1, .inl (cY 2, 6, .inr (.inr (.inr (.inr (fun j => some (AD (2 + j))))))))]) [0, 1, 2, 3, 4] rfl
  have hDc := hD.part (cx := [(qd, .inr (1, [.ref (AD 0), .ref ql, .ref qr])), (ql, .inr (2, figL z_10)), (qr, .inr (2, figL z_11)), (AD 0, .inr (5, [.int cnt, .ref (AD 1), .ref (AD 8)])), (AD 1, .inl (cY 2, 6, .inr (.inr (.inr (.inr (fun j => some (AD (2 + j))))))))]) [0, 1, 2, 3, 4] (by decide) rfl
  have hFc := va_freeP (cx := [(qd, .inr (1, [.ref (AD 0), .ref ql, .ref qr])), (ql, .inr (2, figL z_10)), (qr, .inr (2, figL z_11)), (AD 0, .inr (5, [.int cnt, .ref (AD 1), .ref (AD 8)])), (AD 1, .inl (cY 2, 6, .inr (.inr (.inr (.inr (fun j => some (AD (2 + j))))))))]) (pl := bkM AD cY MV) hD hS hA [0, 1, 2, 3, 4] rfl
  refine va_callv (va_runV (As := []) (rest := []) ⟨hx, hb, hml, hown, hts⟩ (c_X1_strike l dC dI cY qd ql qr z_10 z_11 AD cnt MV H.size) (cwV 0 hts gX1_playFrame_X1_strike rfl rfl rfl (by decide +kernel) ⟨Nat.le_of_ble_eq_true rfl, Nat.le_of_ble_eq_true rfl⟩) ⟨blindW, va_recv hK hPc (ci := 1) (q0 := 0) rfl rfl, fun U hU hW => ⟨rfl, wPre_of hPc hK hN hDc U hU hW⟩⟩ rfl rfl hl.1 rfl (lv_room (Nat.le_of_ble_eq_true rfl)) dX1_playFrame_43 ⟨Nat.zero_le _, Nat.zero_le _⟩) hS (fun q _ h => hFc q h) hFc (fun u t H1 locs ht hvm hw hB hz1 hk1 hS1 => ?_)
  have hJ := wJoinP (wr := []) (rx := [(qd, .inr (1, [.ref (AD 0), .ref ql, .ref qr])), (ql, .inr (2, figL (X1_strike_w1 z_10 z_11 MV))), (qr, .inr (2, figL (X1_strike_w2 z_10 z_11 MV))), (AD 0, .inr (5, [.int cnt, .ref (AD 1), .ref (AD 8)])), (AD 1, .inl (cY 2, 6, .inr (.inr (.inr (.inr (fun j => some (AD (2 + j))))))))]) (wn := [(qd, .inr (1, [.ref (AD 0), .ref ql, .ref qr])), (ql, .inr (2, figL (X1_strike_w1 z_10 z_11 MV))), (qr, .inr (2, figL (X1_strike_w2 z_10 z_11 MV))), (AD 0, .inr (5, [.int cnt, .ref (AD 1), .ref (AD 8)])), (AD 1, .inl (cY 2, 6, .inr (.inr (.inr (.inr (fun j => some (AD (2 + j))))))))]) hP hD [0, 1, 2, 3, 4] [] rfl rfl (by decide) (by decide) hk1 hFc hB ht [0, 1, 2, 3, 4] rfl (by decide)
  clear hB hk1 hFc hPc hDc hP hD hS hz1 hvm ht t
  obtain ⟨hP1, hD1⟩ := hJ
  generalize H1 = H at hP1 hS1 ⊢
  have hP : va_P (dC, dI) vwCl ([(qd, .inr (1, [.ref (AD 0), .ref ql, .ref qr])), (ql, .inr (2, figL (X1_strike_w1 z_10 z_11 MV))), (qr, .inr (2, figL (X1_strike_w2 z_10 z_11 MV))), (AD 0, .inr (5, [.int cnt, .ref (AD 1), .ref (AD 8)])), (AD 1, .inl (cY 2, 6, .inr (.inr (.inr (.inr (fun j => some (AD (2 + j))))))))] ++ bkM AD cY MV) H := hP1
  have hD : va_D A ([(qd, .inr (1, [.ref (AD 0), .ref ql, .ref qr])), (ql, .inr (2, figL (X1_strike_w1 z_10 z_11 MV))), (qr, .inr (2, figL (X1_strike_w2 z_10 z_11 MV))), (AD 0, .inr (5, [.int cnt, .ref (AD 1), .ref (AD 8)])), (AD 1, .inl (cY 2, 6, .inr (.inr (.inr (.inr (fun j => some (AD (2 + j))))))))] ++ bkM AD cY MV) := hD1
  have hS := hS1
  clear hP1 hD1 hS1
  obtain ⟨z_13, ez_13⟩ : ∃ z, z = (X1_strike_w1 z_10 z_11 MV) := ⟨_, rfl⟩
  rw [← ez_13] at hP hD
  obtain ⟨z_14, ez_14⟩ : ∃ z, z = (X1_strike_w2 z_10 z_11 MV) := ⟨_, rfl⟩
  rw [← ez_14] at hP hD
  refine lv_aload_n hx hb dX1_playFrame_46 rfl (lv_at hl 0 rfl) ?_
  refine va_get (D := (dC, dI)) (ci := 1) (v := .ref ql) (C := RX1) (T := TX1) (N := 3) hx hb hts inw_X1_playFrame_X1 hown hK hP 0 rfl rfl 1 (by decide) (hts (.fieldLink RX1 14 "DuelFrames$Duel" "left" "LDuelFrames$Figure;") (List.mem_of_getElem? (i := 1) rfl)) (fun _ h9 => h9) rfl dX1_playFrame_47 ?_
  refine lv_aload_n hx hb dX1_playFrame_50 rfl (lv_at hl 0 rfl) ?_
  refine va_get (D := (dC, dI)) (ci := 1) (v := .ref (AD 0)) (C := RX1) (T := TX1) (N := 3) hx hb hts inw_X1_playFrame_X1 hown hK hP 0 rfl rfl 0 (by decide) (hts (.fieldLink RX1 23 "DuelFrames$Duel" "moves" "LDuelFrames$MoveList;") (List.mem_of_getElem? (i := 3) rfl)) (fun _ h9 => h9) rfl dX1_playFrame_51 ?_
  have hPc := hP.part (cx := [(ql, .inr (2, figL z_13)), (AD 0, .inr (5, [.int cnt, .ref (AD 1), .ref (AD 8)])), (AD 1, .inl (cY 2, 6, .inr (.inr (.inr (.inr (fun j => some (AD (2 + j))))))))]) [1, 3, 4] rfl
  have hDc := hD.part (cx := [(ql, .inr (2, figL z_13)), (AD 0, .inr (5, [.int cnt, .ref (AD 1), .ref (AD 8)])), (AD 1, .inl (cY 2, 6, .inr (.inr (.inr (.inr (fun j => some (AD (2 + j))))))))]) [1, 3, 4] (by decide) rfl
  have hFc := va_freeP (cx := [(ql, .inr (2, figL z_13)), (AD 0, .inr (5, [.int cnt, .ref (AD 1), .ref (AD 8)])), (AD 1, .inl (cY 2, 6, .inr (.inr (.inr (.inr (fun j => some (AD (2 + j))))))))]) (pl := bkM AD cY MV) hD hS hA [1, 3, 4] rfl
  refine va_callv (va_runV (As := [.ref (AD 0)]) (rest := []) ⟨hx, hb, hml, hown, hts⟩ (c_X2_endFrame l dC dI cY ql z_13 AD cnt MV H.size) (cwV 1 hts gX1_playFrame_X2_endFrame rfl rfl rfl (by decide +kernel) ⟨Nat.le_of_ble_eq_true rfl, Nat.le_of_ble_eq_true rfl⟩) ⟨blindW, va_recv hK hPc (ci := 2) (q0 := 0) rfl rfl, fun U hU hW => ⟨rfl, wPre_of hPc hK hN hDc U hU hW⟩⟩ rfl rfl hl.1 rfl (lv_room (Nat.le_of_ble_eq_true rfl)) dX1_playFrame_54 ⟨Nat.zero_le _, Nat.zero_le _⟩) hS (fun q _ h => hFc q h) hFc (fun u t H1 locs ht hvm hw hB hz1 hk1 hS1 => ?_)
  have hJ := wJoinP (wr := [(qd, .inr (1, [.ref (AD 0), .ref ql, .ref qr])), (qr, .inr (2, figL z_14))]) (rx := [(ql, .inr (2, figL (X2_endFrame_w0 z_13 MV))), (AD 0, .inr (5, [.int cnt, .ref (AD 1), .ref (AD 8)])), (AD 1, .inl (cY 2, 6, .inr (.inr (.inr (.inr (fun j => some (AD (2 + j))))))))]) (wn := [(qd, .inr (1, [.ref (AD 0), .ref ql, .ref qr])), (ql, .inr (2, figL (X2_endFrame_w0 z_13 MV))), (qr, .inr (2, figL z_14)), (AD 0, .inr (5, [.int cnt, .ref (AD 1), .ref (AD 8)])), (AD 1, .inl (cY 2, 6, .inr (.inr (.inr (.inr (fun j => some (AD (2 + j))))))))]) hP hD [1, 3, 4] [0, 2] rfl rfl (by decide) (by decide) hk1 hFc hB ht [0, 2, 1, 3, 4] rfl (by decide)
  clear hB hk1 hFc hPc hDc hP hD hS hz1 hvm ht t
  obtain ⟨hP1, hD1⟩ := hJ
  generalize H1 = H at hP1 hS1 ⊢
  have hP : va_P (dC, dI) vwCl ([(qd, .inr (1, [.ref (AD 0), .ref ql, .ref qr])), (ql, .inr (2, figL (X2_endFrame_w0 z_13 MV))), (qr, .inr (2, figL z_14)), (AD 0, .inr (5, [.int cnt, .ref (AD 1), .ref (AD 8)])), (AD 1, .inl (cY 2, 6, .inr (.inr (.inr (.inr (fun j => some (AD (2 + j))))))))] ++ bkM AD cY MV) H := hP1
  have hD : va_D A ([(qd, .inr (1, [.ref (AD 0), .ref ql, .ref qr])), (ql, .inr (2, figL (X2_endFrame_w0 z_13 MV))), (qr, .inr (2, figL z_14)), (AD 0, .inr (5, [.int cnt, .ref (AD 1), .ref (AD 8)])), (AD 1, .inl (cY 2, 6, .inr (.inr (.inr (.inr (fun j => some (AD (2 + j))))))))] ++ bkM AD cY MV) := hD1
  have hS := hS1
  clear hP1 hD1 hS1
  obtain ⟨z_16, ez_16⟩ : ∃ z, z = (X2_endFrame_w0 z_13 MV) := ⟨_, rfl⟩
  rw [← ez_16] at hP hD
  refine lv_aload_n hx hb dX1_playFrame_57 rfl (lv_at hl 0 rfl) ?_
  refine va_get (D := (dC, dI)) (ci := 1) (v := .ref qr) (C := RX1) (T := TX1) (N := 3) hx hb hts inw_X1_playFrame_X1 hown hK hP 0 rfl rfl 2 (by decide) (hts (.fieldLink RX1 20 "DuelFrames$Duel" "right" "LDuelFrames$Figure;") (List.mem_of_getElem? (i := 2) rfl)) (fun _ h9 => h9) rfl dX1_playFrame_58 ?_
  refine lv_aload_n hx hb dX1_playFrame_61 rfl (lv_at hl 0 rfl) ?_
  refine va_get (D := (dC, dI)) (ci := 1) (v := .ref (AD 0)) (C := RX1) (T := TX1) (N := 3) hx hb hts inw_X1_playFrame_X1 hown hK hP 0 rfl rfl 0 (by decide) (hts (.fieldLink RX1 23 "DuelFrames$Duel" "moves" "LDuelFrames$MoveList;") (List.mem_of_getElem? (i := 3) rfl)) (fun _ h9 => h9) rfl dX1_playFrame_62 ?_
  have hPc := hP.part (cx := [(qr, .inr (2, figL z_14)), (AD 0, .inr (5, [.int cnt, .ref (AD 1), .ref (AD 8)])), (AD 1, .inl (cY 2, 6, .inr (.inr (.inr (.inr (fun j => some (AD (2 + j))))))))]) [2, 3, 4] rfl
  have hDc := hD.part (cx := [(qr, .inr (2, figL z_14)), (AD 0, .inr (5, [.int cnt, .ref (AD 1), .ref (AD 8)])), (AD 1, .inl (cY 2, 6, .inr (.inr (.inr (.inr (fun j => some (AD (2 + j))))))))]) [2, 3, 4] (by decide) rfl
  have hFc := va_freeP (cx := [(qr, .inr (2, figL z_14)), (AD 0, .inr (5, [.int cnt, .ref (AD 1), .ref (AD 8)])), (AD 1, .inl (cY 2, 6, .inr (.inr (.inr (.inr (fun j => some (AD (2 + j))))))))]) (pl := bkM AD cY MV) hD hS hA [2, 3, 4] rfl
  refine va_callv (va_runV (As := [.ref (AD 0)]) (rest := []) ⟨hx, hb, hml, hown, hts⟩ (c_X2_endFrame l dC dI cY qr z_14 AD cnt MV H.size) (cwV 1 hts gX1_playFrame_X2_endFrame rfl rfl rfl (by decide +kernel) ⟨Nat.le_of_ble_eq_true rfl, Nat.le_of_ble_eq_true rfl⟩) ⟨blindW, va_recv hK hPc (ci := 2) (q0 := 0) rfl rfl, fun U hU hW => ⟨rfl, wPre_of hPc hK hN hDc U hU hW⟩⟩ rfl rfl hl.1 rfl (lv_room (Nat.le_of_ble_eq_true rfl)) dX1_playFrame_65 ⟨Nat.zero_le _, Nat.zero_le _⟩) hS (fun q _ h => hFc q h) hFc (fun u t H1 locs ht hvm hw hB hz1 hk1 hS1 => ?_)
  have hJ := wJoinP (wr := [(qd, .inr (1, [.ref (AD 0), .ref ql, .ref qr])), (ql, .inr (2, figL z_16))]) (rx := [(qr, .inr (2, figL (X2_endFrame_w0 z_14 MV))), (AD 0, .inr (5, [.int cnt, .ref (AD 1), .ref (AD 8)])), (AD 1, .inl (cY 2, 6, .inr (.inr (.inr (.inr (fun j => some (AD (2 + j))))))))]) (wn := [(qd, .inr (1, [.ref (AD 0), .ref ql, .ref qr])), (ql, .inr (2, figL z_16)), (qr, .inr (2, figL (X2_endFrame_w0 z_14 MV))), (AD 0, .inr (5, [.int cnt, .ref (AD 1), .ref (AD 8)])), (AD 1, .inl (cY 2, 6, .inr (.inr (.inr (.inr (fun j => some (AD (2 + j))))))))]) hP hD [2, 3, 4] [0, 1] rfl rfl (by decide) (by decide) hk1 hFc hB ht [0, 1, 2, 3, 4] rfl (by decide)
  clear hB hk1 hFc hPc hDc hP hD hS hz1 hvm ht t
  obtain ⟨hP1, hD1⟩ := hJ
  generalize H1 = H at hP1 hS1 ⊢
  have hP : va_P (dC, dI) vwCl ([(qd, .inr (1, [.ref (AD 0), .ref ql, .ref qr])), (ql, .inr (2, figL z_16)), (qr, .inr (2, figL (X2_endFrame_w0 z_14 MV))), (AD 0, .inr (5, [.int cnt, .ref (AD 1), .ref (AD 8)])), (AD 1, .inl (cY 2, 6, .inr (.inr (.inr (.inr (fun j => some (AD (2 + j))))))))] ++ bkM AD cY MV) H := hP1
  have hD : va_D A ([(qd, .inr (1, [.ref (AD 0), .ref ql, .ref qr])), (ql, .inr (2, figL z_16)), (qr, .inr (2, figL (X2_endFrame_w0 z_14 MV))), (AD 0, .inr (5, [.int cnt, .ref (AD 1), .ref (AD 8)])), (AD 1, .inl (cY 2, 6, .inr (.inr (.inr (.inr (fun j => some (AD (2 + j))))))))] ++ bkM AD cY MV) := hD1
  have hS := hS1
  clear hP1 hD1 hS1
  obtain ⟨z_18, ez_18⟩ : ∃ z, z = (X2_endFrame_w0 z_14 MV) := ⟨_, rfl⟩
  rw [← ez_18] at hP hD
  have eo_19 : (X1_playFrame_w1 F G MV one two) = z_16 := by rw [X1_playFrame_w1]; (try simp only [← ez_2, ← ez_4, ← ez_6, ← ez_8, ← ez_10, ← ez_11, ← ez_13, ← ez_14, ← ez_16, ← ez_18])
  have eo_20 : (X1_playFrame_w2 F G MV one two) = z_18 := by rw [X1_playFrame_w2]; (try simp only [← ez_2, ← ez_4, ← ez_6, ← ez_8, ← ez_10, ← ez_11, ← ez_13, ← ez_14, ← ez_16, ← ez_18])
  have hP9 : va_P (dC, dI) vwCl ([(qd, .inr (1, [.ref (AD 0), .ref ql, .ref qr])), (ql, .inr (2, figL (X1_playFrame_w1 F G MV one two))), (qr, .inr (2, figL (X1_playFrame_w2 F G MV one two))), (AD 0, .inr (5, [.int cnt, .ref (AD 1), .ref (AD 8)])), (AD 1, .inl (cY 2, 6, .inr (.inr (.inr (.inr (fun j => some (AD (2 + j))))))))] ++ bkM AD cY MV) H := by simp only [eo_19, eo_20]; exact hP
  have hD9 : va_D A ([(qd, .inr (1, [.ref (AD 0), .ref ql, .ref qr])), (ql, .inr (2, figL (X1_playFrame_w1 F G MV one two))), (qr, .inr (2, figL (X1_playFrame_w2 F G MV one two))), (AD 0, .inr (5, [.int cnt, .ref (AD 1), .ref (AD 8)])), (AD 1, .inl (cY 2, 6, .inr (.inr (.inr (.inr (fun j => some (AD (2 + j))))))))] ++ bkM AD cY MV) := by simp only [eo_19, eo_20]; exact hD
  exact W.vret hx hb hr (fun t ht hW => ⟨⟨(), rfl, trivial, wPost_of hP9 hD9 ht⟩, hS.F ht⟩) hS.2.2 dX1_playFrame_68
theorem inw_X1_copy_X1 : ∀ w ∈ u_ws RX1 TX1 3, w ∈ wsX1_copy := fun _ h => List.mem_cons_of_mem _ (List.mem_append_left _ (List.mem_append_right _ h))
def X1_copy_w1 (F : Nat → Int32) (M : Nat → Int32) : Nat → Int32 := (X2_copy_w0 F M)
def X1_copy_w2 (G : Nat → Int32) (N : Nat → Int32) : Nat → Int32 := (X2_copy_w0 G N)
set_option maxHeartbeats 4000000 in
set_option maxRecDepth 100000 in
theorem c_X1_copy (l : Launch) (dC : Nat → ClassId) (dI : Nat → Nat → Nat) (cY : Nat → ClassId) (qd : Nat) (qm : Nat) (ql : Nat) (qr : Nat) (jd : Nat) (jm : Nat) (jl : Nat) (jr : Nat) (F : Nat → Int32) (G : Nat → Int32) (M : Nat → Int32) (N : Nat → Int32)  (sz : Nat) : Met l yX1_copy wsX1_copy ({ frames := 1, cells := 0, slots := 0, locals := 21 } : Room) (va_Pc [.ref qd, .ref jd] (wPre (dC, dI) (tyL cY) [(qd, .inr (1, [.ref qm, .ref ql, .ref qr])), (ql, .inr (2, figL F)), (qr, .inr (2, figL G)), (jd, .inr (1, [.ref jm, .ref jl, .ref jr])), (jl, .inr (2, figL M)), (jr, .inr (2, figL N))] sz)) (va_Qv (fun _ : Unit => True) (wPost (dC, dI) [(qd, .inr (1, [.ref qm, .ref ql, .ref qr])), (ql, .inr (2, figL (X1_copy_w1 F M))), (qr, .inr (2, figL (X1_copy_w2 G N))), (jd, .inr (1, [.ref jm, .ref jl, .ref jr])), (jl, .inr (2, figL M)), (jr, .inr (2, figL N))] (va_A [(qd, .inr (1, [.ref qm, .ref ql, .ref qr])), (ql, .inr (2, figL F)), (qr, .inr (2, figL G)), (jd, .inr (1, [.ref jm, .ref jl, .ref jr])), (jl, .inr (2, figL M)), (jr, .inr (2, figL N))] sz)) (va_A [(qd, .inr (1, [.ref qm, .ref ql, .ref qr])), (ql, .inr (2, figL F)), (qr, .inr (2, figL G)), (jd, .inr (1, [.ref jm, .ref jl, .ref jr])), (jl, .inr (2, figL M)), (jr, .inr (2, figL N))] sz)) 0 0 (va_A [(qd, .inr (1, [.ref qm, .ref ql, .ref qr])), (ql, .inr (2, figL F)), (qr, .inr (2, figL G)), (jd, .inr (1, [.ref jm, .ref jl, .ref jr])), (jl, .inr (2, figL M)), (jr, .inr (2, figL N))] sz) := by
  refine Met.ofW (cc := cX1_copy) (maxL := 2) (ret := none) (by decide) rfl ?_
  intro p e s m args below meth c s₁ B hml hv
  obtain ⟨rfl, hsz, hP, hK, hN, hD0⟩ := hv
  have hx := B.exec
  have hb := B.bytes
  have hr := B.returns
  have hts := atoms_spec (ws := wsX1_copy) B.pre
  have hown : s.vm.findClass RX1 = some m.cls := findClass_of_methodNamed B.named
  have hlocks := B.notSynchronized
  subst hsz
  have hD := hD0.self (sz := s.heap.size)
  generalize hAe : va_A [(qd, .inr (1, [.ref qm, .ref ql, .ref qr])), (ql, .inr (2, figL F)), (qr, .inr (2, figL G)), (jd, .inr (1, [.ref jm, .ref jl, .ref jr])), (jl, .inr (2, figL M)), (jr, .inr (2, figL N))] s.heap.size = A at hD ⊢
  have hA : ∀ q : Nat, s.heap.size ≤ q → A q := fun q h => by rw [← hAe]; exact Or.inr h
  have hS : va_S A s.heap s.heap [] := va_S.rf
  have hP : va_P (dC, dI) vwCl [(qd, .inr (1, [.ref qm, .ref ql, .ref qr])), (ql, .inr (2, figL F)), (qr, .inr (2, figL G)), (jd, .inr (1, [.ref jm, .ref jl, .ref jr])), (jl, .inr (2, figL M)), (jr, .inr (2, figL N))] s.heap := hP
  have hl := lv_entry ([.ref qd, .ref jd]) (n := 2) (Nat.le_of_ble_eq_true rfl)
  rw [lg_entry_eq]
  generalize (lg_sl ([.ref qd, .ref jd]) ++ List.replicate (2 - (lg_sl ([.ref qd, .ref jd])).length) Slot.unset).toArray = ls at hl ⊢
  have hl : lv_has ls 2 [(0, .ref qd), (1, .ref jd)] := hl
  refine lv_aload_n hx hb dX1_copy_0 rfl (lv_at hl 0 rfl) ?_
  refine va_get (D := (dC, dI)) (ci := 1) (v := .ref ql) (C := RX1) (T := TX1) (N := 3) hx hb hts inw_X1_copy_X1 hown hK hP 0 rfl rfl 1 (by decide) (hts (.fieldLink RX1 14 "DuelFrames$Duel" "left" "LDuelFrames$Figure;") (List.mem_of_getElem? (i := 1) rfl)) (fun _ h9 => h9) rfl dX1_copy_1 ?_
  refine lv_aload_n hx hb dX1_copy_4 rfl (lv_at hl 1 rfl) ?_
  refine va_get (D := (dC, dI)) (ci := 1) (v := .ref jl) (C := RX1) (T := TX1) (N := 3) hx hb hts inw_X1_copy_X1 hown hK hP 3 rfl rfl 1 (by decide) (hts (.fieldLink RX1 14 "DuelFrames$Duel" "left" "LDuelFrames$Figure;") (List.mem_of_getElem? (i := 1) rfl)) (fun _ h9 => h9) rfl dX1_copy_5 ?_
  have hPc := hP.sub (ws' := [(ql, .inr (2, figL F)), (jl, .inr (2, figL M))]) [1, 4] rfl
  have hDc := hD.sub (ws' := [(ql, .inr (2, figL F)), (jl, .inr (2, figL M))]) [1, 4] (by decide) rfl
  have hFc := va_free (wc := [(ql, .inr (2, figL F)), (jl, .inr (2, figL M))]) hD hS hA [1, 4] rfl
  refine va_callv (va_runV (As := [.ref jl]) (rest := []) ⟨hx, hb, hml, hown, hts⟩ (c_X2_copy l dC dI cY ql jl F M s.heap.size) (cwV 1 hts gX1_copy_X2_copy rfl rfl rfl (by decide +kernel) ⟨Nat.le_of_ble_eq_true rfl, Nat.le_of_ble_eq_true rfl⟩) ⟨blindW, va_recv hK hPc (ci := 2) (q0 := 0) rfl rfl, fun U hU hW => ⟨rfl, wPre_of hPc hK hN hDc U hU hW⟩⟩ rfl rfl hl.1 rfl (lv_room (Nat.le_of_ble_eq_true rfl)) dX1_copy_8 ⟨Nat.zero_le _, Nat.zero_le _⟩) hS (fun q _ h => hFc q h) hFc (fun u t H1 locs ht hvm hw hB hz1 hk1 hS1 => ?_)
  have hJ := wJoin (wr := [(qd, .inr (1, [.ref qm, .ref ql, .ref qr])), (qr, .inr (2, figL G)), (jd, .inr (1, [.ref jm, .ref jl, .ref jr])), (jr, .inr (2, figL N))]) (w1 := [(ql, .inr (2, figL (X2_copy_w0 F M))), (jl, .inr (2, figL M))]) (wn := [(qd, .inr (1, [.ref qm, .ref ql, .ref qr])), (ql, .inr (2, figL (X2_copy_w0 F M))), (qr, .inr (2, figL G)), (jd, .inr (1, [.ref jm, .ref jl, .ref jr])), (jl, .inr (2, figL M)), (jr, .inr (2, figL N))]) hP hD [1, 4] [0, 2, 3, 5] rfl rfl (by decide) (by decide) hk1 hFc hB ht [0, 4, 1, 2, 5, 3] rfl (by decide)
  clear hB hk1 hFc hPc hDc hP hD hS hz1 hvm ht t
  obtain ⟨hP1, hD1⟩ := hJ
  generalize H1 = H at hP1 hS1 ⊢
  have hP : va_P (dC, dI) vwCl [(qd, .inr (1, [.ref qm, .ref ql, .ref qr])), (ql, .inr (2, figL (X2_copy_w0 F M))), (qr, .inr (2, figL G)), (jd, .inr (1, [.ref jm, .ref jl, .ref jr])), (jl, .inr (2, figL M)), (jr, .inr (2, figL N))] H := hP1
  have hD : va_D A [(qd, .inr (1, [.ref qm, .ref ql, .ref qr])), (ql, .inr (2, figL (X2_copy_w0 F M))), (qr, .inr (2, figL G)), (jd, .inr (1, [.ref jm, .ref jl, .ref jr])), (jl, .inr (2, figL M)), (jr, .inr (2, figL N))] := hD1
  have hS := hS1
  clear hP1 hD1 hS1
  obtain ⟨z_2, ez_2⟩ : ∃ z, z = (X2_copy_w0 F M) := ⟨_, rfl⟩
  rw [← ez_2] at hP hD
  refine lv_aload_n hx hb dX1_copy_11 rfl (lv_at hl 0 rfl) ?_
  refine va_get (D := (dC, dI)) (ci := 1) (v := .ref qr) (C := RX1) (T := TX1) (N := 3) hx hb hts inw_X1_copy_X1 hown hK hP 0 rfl rfl 2 (by decide) (hts (.fieldLink RX1 20 "DuelFrames$Duel" "right" "LDuelFrames$Figure;") (List.mem_of_getElem? (i := 2) rfl)) (fun _ h9 => h9) rfl dX1_copy_12 ?_
  refine lv_aload_n hx hb dX1_copy_15 rfl (lv_at hl 1 rfl) ?_
  refine va_get (D := (dC, dI)) (ci := 1) (v := .ref jr) (C := RX1) (T := TX1) (N := 3) hx hb hts inw_X1_copy_X1 hown hK hP 3 rfl rfl 2 (by decide) (hts (.fieldLink RX1 20 "DuelFrames$Duel" "right" "LDuelFrames$Figure;") (List.mem_of_getElem? (i := 2) rfl)) (fun _ h9 => h9) rfl dX1_copy_16 ?_
  have hPc := hP.sub (ws' := [(qr, .inr (2, figL G)), (jr, .inr (2, figL N))]) [2, 5] rfl
  have hDc := hD.sub (ws' := [(qr, .inr (2, figL G)), (jr, .inr (2, figL N))]) [2, 5] (by decide) rfl
  have hFc := va_free (wc := [(qr, .inr (2, figL G)), (jr, .inr (2, figL N))]) hD hS hA [2, 5] rfl
  refine va_callv (va_runV (As := [.ref jr]) (rest := []) ⟨hx, hb, hml, hown, hts⟩ (c_X2_copy l dC dI cY qr jr G N H.size) (cwV 1 hts gX1_copy_X2_copy rfl rfl rfl (by decide +kernel) ⟨Nat.le_of_ble_eq_true rfl, Nat.le_of_ble_eq_true rfl⟩) ⟨blindW, va_recv hK hPc (ci := 2) (q0 := 0) rfl rfl, fun U hU hW => ⟨rfl, wPre_of hPc hK hN hDc U hU hW⟩⟩ rfl rfl hl.1 rfl (lv_room (Nat.le_of_ble_eq_true rfl)) dX1_copy_19 ⟨Nat.zero_le _, Nat.zero_le _⟩) hS (fun q _ h => hFc q h) hFc (fun u t H1 locs ht hvm hw hB hz1 hk1 hS1 => ?_)
  have hJ := wJoin (wr := [(qd, .inr (1, [.ref qm, .ref ql, .ref qr])), (ql, .inr (2, figL z_2)), (jd, .inr (1, [.ref jm, .ref jl, .ref jr])), (jl, .inr (2, figL M))]) (w1 := [(qr, .inr (2, figL (X2_copy_w0 G N))), (jr, .inr (2, figL N))]) (wn := [(qd, .inr (1, [.ref qm, .ref ql, .ref qr])), (ql, .inr (2, figL z_2)), (qr, .inr (2, figL (X2_copy_w0 G N))), (jd, .inr (1, [.ref jm, .ref jl, .ref jr])), (jl, .inr (2, figL M)), (jr, .inr (2, figL N))]) hP hD [2, 5] [0, 1, 3, 4] rfl rfl (by decide) (by decide) hk1 hFc hB ht [0, 1, 4, 2, 3, 5] rfl (by decide)
  clear hB hk1 hFc hPc hDc hP hD hS hz1 hvm ht t
  obtain ⟨hP1, hD1⟩ := hJ
  generalize H1 = H at hP1 hS1 ⊢
  have hP : va_P (dC, dI) vwCl [(qd, .inr (1, [.ref qm, .ref ql, .ref qr])), (ql, .inr (2, figL z_2)), (qr, .inr (2, figL (X2_copy_w0 G N))), (jd, .inr (1, [.ref jm, .ref jl, .ref jr])), (jl, .inr (2, figL M)), (jr, .inr (2, figL N))] H := hP1
  have hD : va_D A [(qd, .inr (1, [.ref qm, .ref ql, .ref qr])), (ql, .inr (2, figL z_2)), (qr, .inr (2, figL (X2_copy_w0 G N))), (jd, .inr (1, [.ref jm, .ref jl, .ref jr])), (jl, .inr (2, figL M)), (jr, .inr (2, figL N))] := hD1
  have hS := hS1
  clear hP1 hD1 hS1
  obtain ⟨z_4, ez_4⟩ : ∃ z, z = (X2_copy_w0 G N) := ⟨_, rfl⟩
  rw [← ez_4] at hP hD
  have eo_5 : (X1_copy_w1 F M) = z_2 := by rw [X1_copy_w1]; (try simp only [← ez_2, ← ez_4])
  have eo_6 : (X1_copy_w2 G N) = z_4 := by rw [X1_copy_w2]; (try simp only [← ez_2, ← ez_4])
  have hP9 : va_P (dC, dI) vwCl [(qd, .inr (1, [.ref qm, .ref ql, .ref qr])), (ql, .inr (2, figL (X1_copy_w1 F M))), (qr, .inr (2, figL (X1_copy_w2 G N))), (jd, .inr (1, [.ref jm, .ref jl, .ref jr])), (jl, .inr (2, figL M)), (jr, .inr (2, figL N))] H := by simp only [eo_5, eo_6]; exact hP
  have hD9 : va_D A [(qd, .inr (1, [.ref qm, .ref ql, .ref qr])), (ql, .inr (2, figL (X1_copy_w1 F M))), (qr, .inr (2, figL (X1_copy_w2 G N))), (jd, .inr (1, [.ref jm, .ref jl, .ref jr])), (jl, .inr (2, figL M)), (jr, .inr (2, figL N))] := by simp only [eo_5, eo_6]; exact hD
  exact W.vret hx hb hr (fun t ht hW => ⟨⟨(), rfl, trivial, wPost_of hP9 hD9 ht⟩, hS.F ht⟩) hS.2.2 dX1_copy_22
