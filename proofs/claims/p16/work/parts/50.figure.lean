theorem inw_X1_figure_X1 : ∀ w ∈ u_ws RX1 TX1 3, w ∈ wsX1_figure := fun _ h => List.mem_cons_of_mem _ (List.mem_append_right _ h)
set_option maxHeartbeats 4000000 in
set_option maxRecDepth 100000 in
theorem c_X1_figureL (l : Launch) (dC : Nat → ClassId) (dI : Nat → Nat → Nat) (cY : Nat → ClassId) (qd : Nat) (qm : Nat) (ql : Nat) (qr : Nat) (F : Nat → Int32) (G : Nat → Int32) (number : Int32) (h0 : number = 0) : Met l yX1_figure wsX1_figure ({ frames := 0, cells := 0, slots := 0, locals := 0 } : Room) (va_Pc [.ref qd, .int number] (rPre (dC, dI) (tyL cY) [(qd, .inr (1, [.ref qm, .ref ql, .ref qr])), (ql, .inr (2, figL F)), (qr, .inr (2, figL G))])) (va_Sr (fun k => k = ql) (fun k => .ref k)) 0 0 (fun _ => False) := by
  refine Met.ofW (cc := cX1_figure) (maxL := 2) (ret := (some (.object "DuelFrames$Figure"))) (by decide) rfl ?_
  intro p e s m args below meth c s₁ B hml hv
  obtain ⟨rfl, hP, hK, hN⟩ := hv
  have hx := B.exec
  have hb := B.bytes
  have hr := B.returns
  have hts := atoms_spec (ws := wsX1_figure) B.pre
  have hown : s.vm.findClass RX1 = some m.cls := findClass_of_methodNamed B.named
  have hlocks := B.notSynchronized
  have hP : va_P (dC, dI) vwCl [(qd, .inr (1, [.ref qm, .ref ql, .ref qr])), (ql, .inr (2, figL F)), (qr, .inr (2, figL G))] s.heap := hP
  have hl := lv_entry ([.ref qd, .int number]) (n := 2) (Nat.le_of_ble_eq_true rfl)
  rw [lg_entry_eq]
  generalize (lg_sl ([.ref qd, .int number]) ++ List.replicate (2 - (lg_sl ([.ref qd, .int number])).length) Slot.unset).toArray = ls at hl ⊢
  have hl : lv_has ls 2 [(0, .ref qd), (1, .int number)] := hl
  refine lv_iload_n hx hb dX1_figure_0 rfl (lv_at hl 1 rfl) ?_
  refine lv_if_ne (tgt := 11) hx hb dX1_figure_1 (by decide) (fun c_1 => ?_) (fun c_1 => ?_)
  · exact absurd h0 c_1
  refine lv_aload_n hx hb dX1_figure_4 rfl (lv_at hl 0 rfl) ?_
  refine va_get (D := (dC, dI)) (ci := 1) (v := .ref ql) (C := RX1) (T := TX1) (N := 3) hx hb hts inw_X1_figure_X1 hown hK hP 0 rfl rfl 1 (by decide) (hts (.fieldLink RX1 14 "DuelFrames$Duel" "left" "LDuelFrames$Figure;") (List.mem_of_getElem? (i := 1) rfl)) (fun _ h9 => h9) rfl dX1_figure_5 ?_
  refine lv_goto (tgt := 15) hx hb dX1_figure_8 (by decide) ?_
  exact W.aret (rt := (.object "DuelFrames$Figure")) hx hb hr (Or.inl ⟨_, rfl⟩) (Or.inr ⟨_, rfl⟩) (fun t ht _ => ⟨_, rfl, rfl, ht⟩) (fun _ h => absurd h List.not_mem_nil) dX1_figure_15
set_option maxHeartbeats 4000000 in
set_option maxRecDepth 100000 in
theorem c_X1_figureR (l : Launch) (dC : Nat → ClassId) (dI : Nat → Nat → Nat) (cY : Nat → ClassId) (qd : Nat) (qm : Nat) (ql : Nat) (qr : Nat) (F : Nat → Int32) (G : Nat → Int32) (number : Int32) (h0 : ¬ number = 0) : Met l yX1_figure wsX1_figure ({ frames := 0, cells := 0, slots := 0, locals := 0 } : Room) (va_Pc [.ref qd, .int number] (rPre (dC, dI) (tyL cY) [(qd, .inr (1, [.ref qm, .ref ql, .ref qr])), (ql, .inr (2, figL F)), (qr, .inr (2, figL G))])) (va_Sr (fun k => k = qr) (fun k => .ref k)) 0 0 (fun _ => False) := by
  refine Met.ofW (cc := cX1_figure) (maxL := 2) (ret := (some (.object "DuelFrames$Figure"))) (by decide) rfl ?_
  intro p e s m args below meth c s₁ B hml hv
  obtain ⟨rfl, hP, hK, hN⟩ := hv
  have hx := B.exec
  have hb := B.bytes
  have hr := B.returns
  have hts := atoms_spec (ws := wsX1_figure) B.pre
  have hown : s.vm.findClass RX1 = some m.cls := findClass_of_methodNamed B.named
  have hlocks := B.notSynchronized
  have hP : va_P (dC, dI) vwCl [(qd, .inr (1, [.ref qm, .ref ql, .ref qr])), (ql, .inr (2, figL F)), (qr, .inr (2, figL G))] s.heap := hP
  have hl := lv_entry ([.ref qd, .int number]) (n := 2) (Nat.le_of_ble_eq_true rfl)
  rw [lg_entry_eq]
  generalize (lg_sl ([.ref qd, .int number]) ++ List.replicate (2 - (lg_sl ([.ref qd, .int number])).length) Slot.unset).toArray = ls at hl ⊢
  have hl : lv_has ls 2 [(0, .ref qd), (1, .int number)] := hl
  refine lv_iload_n hx hb dX1_figure_0 rfl (lv_at hl 1 rfl) ?_
  refine lv_if_ne (tgt := 11) hx hb dX1_figure_1 (by decide) (fun c_1 => ?_) (fun c_1 => ?_)
  rotate_left
  · exact absurd c_1 h0
  refine lv_aload_n hx hb dX1_figure_11 rfl (lv_at hl 0 rfl) ?_
  refine va_get (D := (dC, dI)) (ci := 1) (v := .ref qr) (C := RX1) (T := TX1) (N := 3) hx hb hts inw_X1_figure_X1 hown hK hP 0 rfl rfl 2 (by decide) (hts (.fieldLink RX1 20 "DuelFrames$Duel" "right" "LDuelFrames$Figure;") (List.mem_of_getElem? (i := 2) rfl)) (fun _ h9 => h9) rfl dX1_figure_12 ?_
  exact W.aret (rt := (.object "DuelFrames$Figure")) hx hb hr (Or.inl ⟨_, rfl⟩) (Or.inr ⟨_, rfl⟩) (fun t ht _ => ⟨_, rfl, rfl, ht⟩) (fun _ h => absurd h List.not_mem_nil) dX1_figure_15
