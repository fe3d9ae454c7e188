theorem inw_X8_hitBoth_X8 : ∀ w ∈ u_ws RX8 TX8 17, w ∈ wsX8_hitBoth := fun _ h => List.mem_cons_of_mem _ (List.mem_append_right _ h)
def X8_hitBoth_j78 (tb : Nat → Int32) (sA : Nat → Int32) : Nat → Int32 := (if (X8_reaches0_r tb sA) = 0 then sA else (upd sA 9 0))
def X8_hitBoth_j91 (tb : Nat → Int32) (sA : Nat → Int32) : Nat → Int32 := (if (X8_reaches11_r tb sA) = 0 then (X8_hitBoth_j78 tb sA) else (upd (X8_hitBoth_j78 tb sA) 20 0))
def X8_hitBoth_w2 (tb : Nat → Int32) (sA : Nat → Int32) (one : Int32) (two : Int32) : Nat → Int32 := (if (X8_reaches0_r tb sA) = 0 then (if (X8_reaches11_r tb sA) = 0 then (X8_hitBoth_j91 tb sA) else (X8_touch11_w2 tb (X8_hitBoth_j91 tb sA) (sA 6) (sA 3) one (sA 15))) else (if (X8_reaches11_r tb sA) = 0 then (X8_touch0_w2 tb (X8_hitBoth_j91 tb sA) (sA 17) (sA 14) two (sA 4)) else (if (X8_ofMove_r tb (sA 4) 4) = 3 then (if (X8_ofMove_r tb (sA 15) 4) = 3 then (X8_goBack11_w2 (X8_goBack0_w2 (X8_hitBoth_j91 tb sA) 20) 20) else (X8_touch11_w2 tb (X8_touch0_w2 tb (X8_hitBoth_j91 tb sA) (sA 17) (sA 14) two (sA 4)) (sA 6) (sA 3) one (sA 15))) else (X8_touch11_w2 tb (X8_touch0_w2 tb (X8_hitBoth_j91 tb sA) (sA 17) (sA 14) two (sA 4)) (sA 6) (sA 3) one (sA 15)))))
set_option maxHeartbeats 4000000 in
set_option maxRecDepth 100000 in
theorem c_X8_hitBoth (l : Launch) (dC : Nat → ClassId) (dI : Nat → Nat → Nat) (cY : Nat → ClassId) (m0 : Nat) (AM : Nat → Nat) (g : Nat → Int32) (tb : Nat → Int32) (sA : Nat → Int32) (rd : Nat → Int32) (kp : Nat → Int32) (td : Nat → Int32) (wn : Nat → Int32) (rw : Nat → Int32) (br : Nat → Int32) (one : Int32) (two : Int32) (hs : okS sA) (sz : Nat) : Met l yX8_hitBoth wsX8_hitBoth ({ frames := 2, cells := 0, slots := 0, locals := 56 } : Room) (va_Pc [.ref m0, .int one, .int two] (wPre (dC, dI) (tyL cY) [(m0, .inr (8, mdL AM g)), (AM 0, .inl (cY 0, 72, .inl tb)), (AM 2, .inl (cY 0, 22, .inl sA)), (AM 3, .inl (cY 0, 22, .inl rd)), (AM 4, .inl (cY 0, 110, .inl kp)), (AM 5, .inl (cY 0, 8414, .inl td)), (AM 6, .inl (cY 0, 2, .inl wn)), (AM 13, .inl (cY 0, 4, .inl rw)), (AM 14, .inl (cY 0, 4, .inl br))] sz)) (va_Qv (fun _ : Unit => True) (wPost (dC, dI) [(m0, .inr (8, mdL AM g)), (AM 0, .inl (cY 0, 72, .inl tb)), (AM 2, .inl (cY 0, 22, .inl (X8_hitBoth_w2 tb sA one two))), (AM 3, .inl (cY 0, 22, .inl rd)), (AM 4, .inl (cY 0, 110, .inl kp)), (AM 5, .inl (cY 0, 8414, .inl td)), (AM 6, .inl (cY 0, 2, .inl wn)), (AM 13, .inl (cY 0, 4, .inl rw)), (AM 14, .inl (cY 0, 4, .inl br))] (va_A [(m0, .inr (8, mdL AM g)), (AM 0, .inl (cY 0, 72, .inl tb)), (AM 2, .inl (cY 0, 22, .inl sA)), (AM 3, .inl (cY 0, 22, .inl rd)), (AM 4, .inl (cY 0, 110, .inl kp)), (AM 5, .inl (cY 0, 8414, .inl td)), (AM 6, .inl (cY 0, 2, .inl wn)), (AM 13, .inl (cY 0, 4, .inl rw)), (AM 14, .inl (cY 0, 4, .inl br))] sz)) (va_A [(m0, .inr (8, mdL AM g)), (AM 0, .inl (cY 0, 72, .inl tb)), (AM 2, .inl (cY 0, 22, .inl sA)), (AM 3, .inl (cY 0, 22, .inl rd)), (AM 4, .inl (cY 0, 110, .inl kp)), (AM 5, .inl (cY 0, 8414, .inl td)), (AM 6, .inl (cY 0, 2, .inl wn)), (AM 13, .inl (cY 0, 4, .inl rw)), (AM 14, .inl (cY 0, 4, .inl br))] sz)) 0 0 (va_A [(m0, .inr (8, mdL AM g)), (AM 0, .inl (cY 0, 72, .inl tb)), (AM 2, .inl (cY 0, 22, .inl sA)), (AM 3, .inl (cY 0, 22, .inl rd)), (AM 4, .inl (cY 0, 110, .inl kp)), (AM 5, .inl (cY 0, 8414, .inl td)), (AM 6, .inl (cY 0, 2, .inl wn)), (AM 13, .inl (cY 0, 4, .inl rw)), (AM 14, .inl (cY 0, 4, .inl br))] sz) := by
  refine Met.ofW (cc := cX8_hitBoth) (maxL := 11) (ret := none) (by decide) rfl ?_
  intro p e s m args below meth c s₁ B hml hv
  obtain ⟨rfl, hsz, hP, hK, hN, hD0⟩ := hv
  have hx := B.exec
  have hb := B.bytes
  have hr := B.returns
  have hts := atoms_spec (ws := wsX8_hitBoth) B.pre
  have hown : s.vm.findClass RX8 = some m.cls := findClass_of_methodNamed B.named
  have hlocks := B.notSynchronized
  subst hsz
  have hD := hD0.self (sz := s.heap.size)
  generalize hAe : va_A [(m0, .inr (8, mdL AM g)), (AM 0, .inl (cY 0, 72, .inl tb)), (AM 2, .inl (cY 0, 22, .inl sA)), (AM 3, .inl (cY 0, 22, .inl rd)), (AM 4, .inl (cY 0, 110, .inl kp)), (AM 5, .inl (cY 0, 8414, .inl td)), (AM 6, .inl (cY 0, 2, .inl wn)), (AM 13, .inl (cY 0, 4, .inl rw)), (AM 14, .inl (cY 0, 4, .inl br))] s.heap.size = A at hD ⊢
  have hA : ∀ q : Nat, s.heap.size ≤ q → A q := fun q h => by rw [← hAe]; exact Or.inr h
  have hS : va_S A s.heap s.heap [] := va_S.rf
  have hP : va_P (dC, dI) vwCl [(m0, .inr (8, mdL AM g)), (AM 0, .inl (cY 0, 72, .inl tb)), (AM 2, .inl (cY 0, 22, .inl sA)), (AM 3, .inl (cY 0, 22, .inl rd)), (AM 4, .inl (cY 0, 110, .inl kp)), (AM 5, .inl (cY 0, 8414, .inl td)), (AM 6, .inl (cY 0, 2, .inl wn)), (AM 13, .inl (cY 0, 4, .inl rw)), (AM 14, .inl (cY 0, 4, .inl br))] s.heap := hP
  have hl := lv_entry ([.ref m0, .int one, .int two]) (n := 11) (Nat.le_of_ble_eq_true rfl)
  rw [lg_entry_eq]
  generalize (lg_sl ([.ref m0, .int one, .int two]) ++ List.replicate (11 - (lg_sl ([.ref m0, .int one, .int two])).length) Slot.unset).toArray = ls at hl ⊢
  have hl : lv_has ls 11 [(0, .ref m0), (1, .int one), (2, .int two)] := hl
  refine lv_aload_n hx hb dX8_hitBoth_0 rfl (lv_at hl 0 rfl) ?_
  refine lv_iconst (v := 0) hx hb dX8_hitBoth_1 (by decide) ?_
  refine vp_callSi (W.runV (As := [.int 0]) (rest := []) ⟨hx, hb, hml, hown, hts⟩ (c_X8_reaches0 l dC dI cY m0 AM g tb sA rd kp td wn rw br hs) (cwV 1 hts gX8_hitBoth_X8_reaches rfl rfl rfl (by decide +kernel) ⟨Nat.le_of_ble_eq_true rfl, Nat.le_of_ble_eq_true rfl⟩) ⟨blindR, va_recv hK hP (ci := 8) (q0 := 0) rfl rfl, fun U hU hW => ⟨rfl, rPre_of hP hK hN U hU hW⟩⟩ rfl rfl hl.1 rfl (lv_room (Nat.le_of_ble_eq_true rfl)) dX8_hitBoth_2 ⟨Nat.zero_le _, Nat.zero_le _⟩) (fun r_1 hw => ?_)
  obtain ⟨hw, hb_2⟩ := hw
  subst hw
  refine lv_istore_n (lv' := [(3, .int (X8_reaches0_r tb sA)), (0, .ref m0), (1, .int one), (2, .int two)]) hx hb dX8_hitBoth_5 rfl hl (by decide) rfl (fun ls hl => ?_)
  refine lv_aload_n hx hb dX8_hitBoth_6 rfl (lv_at hl 1 rfl) ?_
  refine lv_bipush (v := 11) hx hb dX8_hitBoth_7 (by decide) ?_
  refine vp_callSi (W.runV (As := [.int 11]) (rest := []) ⟨hx, hb, hml, hown, hts⟩ (c_X8_reaches11 l dC dI cY m0 AM g tb sA rd kp td wn rw br hs) (cwV 1 hts gX8_hitBoth_X8_reaches rfl rfl rfl (by decide +kernel) ⟨Nat.le_of_ble_eq_true rfl, Nat.le_of_ble_eq_true rfl⟩) ⟨blindR, va_recv hK hP (ci := 8) (q0 := 0) rfl rfl, fun U hU hW => ⟨rfl, rPre_of hP hK hN U hU hW⟩⟩ rfl rfl hl.1 rfl (lv_room (Nat.le_of_ble_eq_true rfl)) dX8_hitBoth_9 ⟨Nat.zero_le _, Nat.zero_le _⟩) (fun r_3 hw => ?_)
  obtain ⟨hw, hb_4⟩ := hw
  subst hw
  refine lv_istore (lv' := [(4, .int (X8_reaches11_r tb sA)), (3, .int (X8_reaches0_r tb sA)), (0, .ref m0), (1, .int one), (2, .int two)]) hx hb dX8_hitBoth_12 hl (by decide) rfl (fun ls hl => ?_)
  refine lv_aload_n hx hb dX8_hitBoth_14 rfl (lv_at hl 2 rfl) ?_
  refine va_get (D := (dC, dI)) (ci := 8) (v := .ref (AM 2)) (C := RX8) (T := TX8) (N := 17) hx hb hts inw_X8_hitBoth_X8 hown hK hP 0 rfl rfl 2 (by decide) (hts (.fieldLink RX8 13 "DuelFramesModel" "s" "[I") (List.mem_of_getElem? (i := 1) rfl)) (fun _ h9 => h9) rfl dX8_hitBoth_15 ?_
  refine lv_iconst (v := 4) hx hb dX8_hitBoth_18 (by decide) ?_
  refine va_iald hx hb hK hP 2 0 rfl rfl (vin rfl) dX8_hitBoth_19 ?_
  refine lv_topi (fun x_5 ex_5 => ?_)
  obtain rfl : x_5 = (sA 4) := ex_5
  refine lv_istore (lv' := [(5, .int (sA 4)), (4, .int (X8_reaches11_r tb sA)), (3, .int (X8_reaches0_r tb sA)), (0, .ref m0), (1, .int one), (2, .int two)]) hx hb dX8_hitBoth_20 hl (by decide) rfl (fun ls hl => ?_)
  refine lv_aload_n hx hb dX8_hitBoth_22 rfl (lv_at hl 3 rfl) ?_
  refine va_get (D := (dC, dI)) (ci := 8) (v := .ref (AM 2)) (C := RX8) (T := TX8) (N := 17) hx hb hts inw_X8_hitBoth_X8 hown hK hP 0 rfl rfl 2 (by decide) (hts (.fieldLink RX8 13 "DuelFramesModel" "s" "[I") (List.mem_of_getElem? (i := 1) rfl)) (fun _ h9 => h9) rfl dX8_hitBoth_23 ?_
  refine lv_bipush (v := 15) hx hb dX8_hitBoth_26 (by decide) ?_
  refine va_iald hx hb hK hP 2 0 rfl rfl (vin rfl) dX8_hitBoth_28 ?_
  refine lv_topi (fun x_6 ex_6 => ?_)
  obtain rfl : x_6 = (sA 15) := ex_6
  refine lv_istore (lv' := [(6, .int (sA 15)), (5, .int (sA 4)), (4, .int (X8_reaches11_r tb sA)), (3, .int (X8_reaches0_r tb sA)), (0, .ref m0), (1, .int one), (2, .int two)]) hx hb dX8_hitBoth_29 hl (by decide) rfl (fun ls hl => ?_)
  refine lv_aload_n hx hb dX8_hitBoth_31 rfl (lv_at hl 4 rfl) ?_
  refine va_get (D := (dC, dI)) (ci := 8) (v := .ref (AM 2)) (C := RX8) (T := TX8) (N := 17) hx hb hts inw_X8_hitBoth_X8 hown hK hP 0 rfl rfl 2 (by decide) (hts (.fieldLink RX8 13 "DuelFramesModel" "s" "[I") (List.mem_of_getElem? (i := 1) rfl)) (fun _ h9 => h9) rfl dX8_hitBoth_32 ?_
  refine lv_iconst (v := 3) hx hb dX8_hitBoth_35 (by decide) ?_
  refine va_iald hx hb hK hP 2 0 rfl rfl (vin rfl) dX8_hitBoth_36 ?_
  refine lv_topi (fun x_7 ex_7 => ?_)
  obtain rfl : x_7 = (sA 3) := ex_7
  refine lv_istore (lv' := [(7, .int (sA 3)), (6, .int (sA 15)), (5, .int (sA 4)), (4, .int (X8_reaches11_r tb sA)), (3, .int (X8_reaches0_r tb sA)), (0, .ref m0), (1, .int one), (2, .int two)]) hx hb dX8_hitBoth_37 hl (by decide) rfl (fun ls hl => ?_)
  refine lv_aload_n hx hb dX8_hitBoth_39 rfl (lv_at hl 5 rfl) ?_
  refine va_get (D := (dC, dI)) (ci := 8) (v := .ref (AM 2)) (C := RX8) (T := TX8) (N := 17) hx hb hts inw_X8_hitBoth_X8 hown hK hP 0 rfl rfl 2 (by decide) (hts (.fieldLink RX8 13 "DuelFramesModel" "s" "[I") (List.mem_of_getElem? (i := 1) rfl)) (fun _ h9 => h9) rfl dX8_hitBoth_40 ?_
  refine lv_bipush (v := 14) hx hb dX8_hitBoth_43 (by decide) ?_
  refine va_iald hx hb hK hP 2 0 rfl rfl (vin rfl) dX8_hitBoth_45 ?_
  refine lv_topi (fun x_8 ex_8 => ?_)
  obtain rfl : x_8 = (sA 14) := ex_8
  refine lv_istore (lv' := [(8, .int (sA 14)), (7, .int (sA 3)), (6, .int (sA 15)), (5, .int (sA 4)), (4, .int (X8_reaches11_r tb sA)), (3, .int (X8_reaches0_r tb sA)), (0, .ref m0), (1, .int one), (2, .int two)]) hx hb dX8_hitBoth_46 hl (by decide) rfl (fun ls hl => ?_)
  refine lv_aload_n hx hb dX8_hitBoth_48 rfl (lv_at hl 6 rfl) ?_
  refine va_get (D := (dC, dI)) (ci := 8) (v := .ref (AM 2)) (C := RX8) (T := TX8) (N := 17) hx hb hts inw_X8_hitBoth_X8 hown hK hP 0 rfl rfl 2 (by decide) (hts (.fieldLink RX8 13 "DuelFramesModel" "s" "[I") (List.mem_of_getElem? (i := 1) rfl)) (fun _ h9 => h9) rfl dX8_hitBoth_49 ?_
  refine lv_bipush (v := 6) hx hb dX8_hitBoth_52 (by decide) ?_
  refine va_iald hx hb hK hP 2 0 rfl rfl (vin rfl) dX8_hitBoth_54 ?_
  refine lv_topi (fun x_9 ex_9 => ?_)
  obtain rfl : x_9 = (sA 6) := ex_9
  refine lv_istore (lv' := [(9, .int (sA 6)), (8, .int (sA 14)), (7, .int (sA 3)), (6, .int (sA 15)), (5, .int (sA 4)), (4, .int (X8_reaches11_r tb sA)), (3, .int (X8_reaches0_r tb sA)), (0, .ref m0), (1, .int one), (2, .int two)]) hx hb dX8_hitBoth_55 hl (by decide) rfl (fun ls hl => ?_)
  refine lv_aload_n hx hb dX8_hitBoth_57 rfl (lv_at hl 7 rfl) ?_
  refine va_get (D := (dC, dI)) (ci := 8) (v := .ref (AM 2)) (C := RX8) (T := TX8) (N := 17) hx hb hts inw_X8_hitBoth_X8 hown hK hP 0 rfl rfl 2 (by decide) (hts (.fieldLink RX8 13 "DuelFramesModel" "s" "[I") (List.mem_of_getElem? (i := 1) rfl)) (fun _ h9 => h9) rfl dX8_hitBoth_58 ?_
  refine lv_bipush (v := 17) hx hb dX8_hitBoth_61 (by decide) ?_
  refine va_iald hx hb hK hP 2 0 rfl rfl (vin rfl) dX8_hitBoth_63 ?_
  refine lv_topi (fun x_10 ex_10 => ?_)
  obtain rfl : x_10 = (sA 17) := ex_10
  refine lv_istore (lv' := [(10, .int (sA 17)), (9, .int (sA 6)), (8, .int (sA 14)), (7, .int (sA 3)), (6, .int (sA 15)), (5, .int (sA 4)), (4, .int (X8_reaches11_r tb sA)), (3, .int (X8_reaches0_r tb sA)), (0, .ref m0), (1, .int one), (2, .int two)]) hx hb dX8_hitBoth_64 hl (by decide) rfl (fun ls hl => ?_)
  refine lv_iload_n hx hb dX8_hitBoth_66 rfl (lv_at hl 7 rfl) ?_
  refine jnW (D := (dC, dI)) (ws := [(m0, .inr (8, mdL AM g)), (AM 0, .inl (cY 0, 72, .inl tb)), (AM 2, .inl (cY 0, 22, .inl (X8_hitBoth_j78 tb sA))), (AM 3, .inl (cY 0, 22, .inl rd)), (AM 4, .inl (cY 0, 110, .inl kp)), (AM 5, .inl (cY 0, 8414, .inl td)), (AM 6, .inl (cY 0, 2, .inl wn)), (AM 13, .inl (cY 0, 4, .inl rw)), (AM 14, .inl (cY 0, 4, .inl br))]) (lv := [(10, .int (sA 17)), (9, .int (sA 6)), (8, .int (sA 14)), (7, .int (sA 3)), (6, .int (sA 15)), (5, .int (sA 4)), (4, .int (X8_reaches11_r tb sA)), (3, .int (X8_reaches0_r tb sA)), (0, .ref m0), (1, .int one), (2, .int two)]) (st := []) (J := 78) (n := 11) (A := A) (H0 := s.heap) ?_ ?_
  · intro H locs ls hP hD hS hl
    obtain ⟨z_13, ez_13⟩ : ∃ z, z = (X8_hitBoth_j78 tb sA) := ⟨_, rfl⟩
    rw [← ez_13] at hP hD
    refine lv_iload hx hb dX8_hitBoth_78 (lv_at hl 6 rfl) ?_
    refine jnW (D := (dC, dI)) (ws := [(m0, .inr (8, mdL AM g)), (AM 0, .inl (cY 0, 72, .inl tb)), (AM 2, .inl (cY 0, 22, .inl (X8_hitBoth_j91 tb sA))), (AM 3, .inl (cY 0, 22, .inl rd)), (AM 4, .inl (cY 0, 110, .inl kp)), (AM 5, .inl (cY 0, 8414, .inl td)), (AM 6, .inl (cY 0, 2, .inl wn)), (AM 13, .inl (cY 0, 4, .inl rw)), (AM 14, .inl (cY 0, 4, .inl br))]) (lv := [(10, .int (sA 17)), (9, .int (sA 6)), (8, .int (sA 14)), (7, .int (sA 3)), (6, .int (sA 15)), (5, .int (sA 4)), (4, .int (X8_reaches11_r tb sA)), (3, .int (X8_reaches0_r tb sA)), (0, .ref m0), (1, .int one), (2, .int two)]) (st := []) (J := 91) (n := 11) (A := A) (H0 := s.heap) ?_ ?_
    · intro H locs ls hP hD hS hl
      obtain ⟨z_16, ez_16⟩ : ∃ z, z = (X8_hitBoth_j91 tb sA) := ⟨_, rfl⟩
      rw [← ez_16] at hP hD
      refine lv_iload_n hx hb dX8_hitBoth_91 rfl (lv_at hl 7 rfl) ?_
      refine lv_if_eq (tgt := 140) hx hb dX8_hitBoth_92 (by decide) (fun c_17 => ?_) (fun c_17 => ?_)
      · refine lv_iload_n hx hb dX8_hitBoth_140 rfl (lv_at hl 7 rfl) ?_
        refine lv_if_eq (tgt := 156) hx hb dX8_hitBoth_141 (by decide) (fun c_18 => ?_) (fun c_18 => ?_)
        rotate_left
        · exact absurd c_17 c_18
        refine lv_iload hx hb dX8_hitBoth_156 (lv_at hl 6 rfl) ?_
        refine lv_if_eq (tgt := 174) hx hb dX8_hitBoth_158 (by decide) (fun c_19 => ?_) (fun c_19 => ?_)
        · have eo_20 : (X8_hitBoth_w2 tb sA one two) = z_16 := by rw [X8_hitBoth_w2]; simp only [← ez_13, ← ez_16, eq_true c_17, eq_true c_19, ↓reduceIte]
          have hP9 : va_P (dC, dI) vwCl [(m0, .inr (8, mdL AM g)), (AM 0, .inl (cY 0, 72, .inl tb)), (AM 2, .inl (cY 0, 22, .inl (X8_hitBoth_w2 tb sA one two))), (AM 3, .inl (cY 0, 22, .inl rd)), (AM 4, .inl (cY 0, 110, .inl kp)), (AM 5, .inl (cY 0, 8414, .inl td)), (AM 6, .inl (cY 0, 2, .inl wn)), (AM 13, .inl (cY 0, 4, .inl rw)), (AM 14, .inl (cY 0, 4, .inl br))] H := by simp only [eo_20]; exact hP
          have hD9 : va_D A [(m0, .inr (8, mdL AM g)), (AM 0, .inl (cY 0, 72, .inl tb)), (AM 2, .inl (cY 0, 22, .inl (X8_hitBoth_w2 tb sA one two))), (AM 3, .inl (cY 0, 22, .inl rd)), (AM 4, .inl (cY 0, 110, .inl kp)), (AM 5, .inl (cY 0, 8414, .inl td)), (AM 6, .inl (cY 0, 2, .inl wn)), (AM 13, .inl (cY 0, 4, .inl rw)), (AM 14, .inl (cY 0, 4, .inl br))] := by simp only [eo_20]; exact hD
          exact W.vret hx hb hr (fun t ht hW => ⟨⟨(), rfl, trivial, wPost_of hP9 hD9 ht⟩, hS.F ht⟩) hS.2.2 dX8_hitBoth_174
        · refine lv_aload_n hx hb dX8_hitBoth_161 rfl (lv_at hl 8 rfl) ?_
          refine lv_bipush (v := 11) hx hb dX8_hitBoth_162 (by decide) ?_
          refine lv_iload hx hb dX8_hitBoth_164 (lv_at hl 4 rfl) ?_
          refine lv_iload hx hb dX8_hitBoth_166 (lv_at hl 3 rfl) ?_
          refine lv_iload hx hb dX8_hitBoth_168 (lv_at hl 1 rfl) ?_
          refine lv_iload_n hx hb dX8_hitBoth_170 rfl (lv_at hl 9 rfl) ?_
          have hPc := hP.sub (ws' := [(m0, .inr (8, mdL AM g)), (AM 0, .inl (cY 0, 72, .inl tb)), (AM 2, .inl (cY 0, 22, .inl z_16)), (AM 3, .inl (cY 0, 22, .inl rd)), (AM 4, .inl (cY 0, 110, .inl kp)), (AM 5, .inl (cY 0, 8414, .inl td)), (AM 6, .inl (cY 0, 2, .inl wn)), (AM 13, .inl (cY 0, 4, .inl rw)), (AM 14, .inl (cY 0, 4, .inl br))]) [0, 1, 2, 3, 4, 5, 6, 7, 8] rfl
          have hDc := hD.sub (ws' := [(m0, .inr (8, mdL AM g)), (AM 0, .inl (cY 0, 72, .inl tb)), (AM 2, .inl (cY 0, 22, .inl z_16)), (AM 3, .inl (cY 0, 22, .inl rd)), (AM 4, .inl (cY 0, 110, .inl kp)), (AM 5, .inl (cY 0, 8414, .inl td)), (AM 6, .inl (cY 0, 2, .inl wn)), (AM 13, .inl (cY 0, 4, .inl rw)), (AM 14, .inl (cY 0, 4, .inl br))]) [0, 1, 2, 3, 4, 5, 6, 7, 8] (by decide) rfl
          have hFc := va_free (wc := [(m0, .inr (8, mdL AM g)), (AM 0, .inl (cY 0, 72, .inl tb)), (AM 2, .inl (cY 0, 22, .inl z_16)), (AM 3, .inl (cY 0, 22, .inl rd)), (AM 4, .inl (cY 0, 110, .inl kp)), (AM 5, .inl (cY 0, 8414, .inl td)), (AM 6, .inl (cY 0, 2, .inl wn)), (AM 13, .inl (cY 0, 4, .inl rw)), (AM 14, .inl (cY 0, 4, .inl br))]) hD hS hA [0, 1, 2, 3, 4, 5, 6, 7, 8] rfl
          refine va_callv (va_runV (As := [.int 11, .int (sA 15), .int (sA 3), .int (sA 6), .int one]) (rest := []) ⟨hx, hb, hml, hown, hts⟩ (c_X8_touch11 l dC dI cY m0 AM g tb z_16 rd kp td wn rw br (sA 15) (sA 3) (sA 6) one (by (try simp only [ez_16, ez_13]); exact (hs.2.2.2 (reaches11_mv c_19))) H.size) (cwV 5 hts gX8_hitBoth_X8_touch rfl rfl rfl (by decide +kernel) ⟨Nat.le_of_ble_eq_true rfl, Nat.le_of_ble_eq_true rfl⟩) ⟨blindW, va_recv hK hPc (ci := 8) (q0 := 0) rfl rfl, fun U hU hW => ⟨rfl, wPre_of hPc hK hN hDc U hU hW⟩⟩ rfl rfl hl.1 rfl (lv_room (Nat.le_of_ble_eq_true rfl)) dX8_hitBoth_171 ⟨Nat.zero_le _, Nat.zero_le _⟩) hS (fun q _ h => hFc q h) hFc (fun u t H1 locs ht hvm hw hB hz1 hk1 hS1 => ?_)
          have hJ := wJoin (wr := []) (w1 := [(m0, .inr (8, mdL AM g)), (AM 0, .inl (cY 0, 72, .inl tb)), (AM 2, .inl (cY 0, 22, .inl (X8_touch11_w2 tb z_16 (sA 6) (sA 3) one (sA 15)))), (AM 3, .inl (cY 0, 22, .inl rd)), (AM 4, .inl (cY 0, 110, .inl kp)), (AM 5, .inl (cY 0, 8414, .inl td)), (AM 6, .inl (cY 0, 2, .inl wn)), (AM 13, .inl (cY 0, 4, .inl rw)), (AM 14, .inl (cY 0, 4, .inl br))]) (wn := [(m0, .inr (8, mdL AM g)), (AM 0, .inl (cY 0, 72, .inl tb)), (AM 2, .inl (cY 0, 22, .inl (X8_touch11_w2 tb z_16 (sA 6) (sA 3) one (sA 15)))), (AM 3, .inl (cY 0, 22, .inl rd)), (AM 4, .inl (cY 0, 110, .inl kp)), (AM 5, .inl (cY 0, 8414, .inl td)), (AM 6, .inl (cY 0, 2, .inl wn)), (AM 13, .inl (cY 0, 4, .inl rw)), (AM 14, .inl (cY 0, 4, .inl br))]) hP hD [0, 1, 2, 3, 4, 5, 6, 7, 8] [] rfl rfl (by decide) (by decide) hk1 hFc hB ht [0, 1, 2, 3, 4, 5, 6, 7, 8] rfl (by decide)
          clear hB hk1 hFc hPc hDc hP hD hS hz1 hvm ht t
          obtain ⟨hP1, hD1⟩ := hJ
          generalize H1 = H at hP1 hS1 ⊢
          have hP : va_P (dC, dI) vwCl [(m0, .inr (8, mdL AM g)), (AM 0, .inl (cY 0, 72, .inl tb)), (AM 2, .inl (cY 0, 22, .inl (X8_touch11_w2 tb z_16 (sA 6) (sA 3) one (sA 15)))), (AM 3, .inl (cY 0, 22, .inl rd)), (AM 4, .inl (cY 0, 110, .inl kp)), (AM 5, .inl (cY 0, 8414, .inl td)), (AM 6, .inl (cY 0, 2, .inl wn)), (AM 13, .inl (cY 0, 4, .inl rw)), (AM 14, .inl (cY 0, 4, .inl br))] H := hP1
          have hD : va_D A [(m0, .inr (8, mdL AM g)), (AM 0, .inl (cY 0, 72, .inl tb)), (AM 2, .inl (cY 0, 22, .inl (X8_touch11_w2 tb z_16 (sA 6) (sA 3) one (sA 15)))), (AM 3, .inl (cY 0, 22, .inl rd)), (AM 4, .inl (cY 0, 110, .inl kp)), (AM 5, .inl (cY 0, 8414, .inl td)), (AM 6, .inl (cY 0, 2, .inl wn)), (AM 13, .inl (cY 0, 4, .inl rw)), (AM 14, .inl (cY 0, 4, .inl br))] := hD1
          have hS := hS1
          clear hP1 hD1 hS1
          obtain ⟨z_22, ez_22⟩ : ∃ z, z = (X8_touch11_w2 tb z_16 (sA 6) (sA 3) one (sA 15)) := ⟨_, rfl⟩
          rw [← ez_22] at hP hD
          have eo_23 : (X8_hitBoth_w2 tb sA one two) = z_22 := by rw [X8_hitBoth_w2]; simp only [← ez_13, ← ez_16, ← ez_22, eq_true c_17, eq_false c_19, ↓reduceIte]
          have hP9 : va_P (dC, dI) vwCl [(m0, .inr (8, mdL AM g)), (AM 0, .inl (cY 0, 72, .inl tb)), (AM 2, .inl (cY 0, 22, .inl (X8_hitBoth_w2 tb sA one two))), (AM 3, .inl (cY 0, 22, .inl rd)), (AM 4, .inl (cY 0, 110, .inl kp)), (AM 5, .inl (cY 0, 8414, .inl td)), (AM 6, .inl (cY 0, 2, .inl wn)), (AM 13, .inl (cY 0, 4, .inl rw)), (AM 14, .inl (cY 0, 4, .inl br))] H := by simp only [eo_23]; exact hP
          have hD9 : va_D A [(m0, .inr (8, mdL AM g)), (AM 0, .inl (cY 0, 72, .inl tb)), (AM 2, .inl (cY 0, 22, .inl (X8_hitBoth_w2 tb sA one two))), (AM 3, .inl (cY 0, 22, .inl rd)), (AM 4, .inl (cY 0, 110, .inl kp)), (AM 5, .inl (cY 0, 8414, .inl td)), (AM 6, .inl (cY 0, 2, .inl wn)), (AM 13, .inl (cY 0, 4, .inl rw)), (AM 14, .inl (cY 0, 4, .inl br))] := by simp only [eo_23]; exact hD
          exact W.vret hx hb hr (fun t ht hW => ⟨⟨(), rfl, trivial, wPost_of hP9 hD9 ht⟩, hS.F ht⟩) hS.2.2 dX8_hitBoth_174
      · refine lv_iload hx hb dX8_hitBoth_95 (lv_at hl 6 rfl) ?_
        refine lv_if_eq (tgt := 140) hx hb dX8_hitBoth_97 (by decide) (fun c_24 => ?_) (fun c_24 => ?_)
        · refine lv_iload_n hx hb dX8_hitBoth_140 rfl (lv_at hl 7 rfl) ?_
          refine lv_if_eq (tgt := 156) hx hb dX8_hitBoth_141 (by decide) (fun c_25 => ?_) (fun c_25 => ?_)
          · exact absurd c_25 c_17
          refine lv_aload_n hx hb dX8_hitBoth_144 rfl (lv_at hl 8 rfl) ?_
          refine lv_iconst (v := 0) hx hb dX8_hitBoth_145 (by decide) ?_
          refine lv_iload hx hb dX8_hitBoth_146 (lv_at hl 5 rfl) ?_
          refine lv_iload hx hb dX8_hitBoth_148 (lv_at hl 2 rfl) ?_
          refine lv_iload hx hb dX8_hitBoth_150 (lv_at hl 0 rfl) ?_
          refine lv_iload_n hx hb dX8_hitBoth_152 rfl (lv_at hl 10 rfl) ?_
          have hPc := hP.sub (ws' := [(m0, .inr (8, mdL AM g)), (AM 0, .inl (cY 0, 72, .inl tb)), (AM 2, .inl (cY 0, 22, .inl z_16)), (AM 3, .inl (cY 0, 22, .inl rd)), (AM 4, .inl (cY 0, 110, .inl kp)), (AM 5, .inl (cY 0, 8414, .inl td)), (AM 6, .inl (cY 0, 2, .inl wn)), (AM 13, .inl (cY 0, 4, .inl rw)), (AM 14, .inl (cY 0, 4, .inl br))]) [0, 1, 2, 3, 4, 5, 6, 7, 8] rfl
          have hDc := hD.sub (ws' := [(m0, .inr (8, mdL AM g)), (AM 0, .inl (cY 0, 72, .inl tb)), (AM 2, .inl (cY 0, 22, .inl z_16)), (AM 3, .inl (cY 0, 22, .inl rd)), (AM 4, .inl (cY 0, 110, .inl kp)), (AM 5, .inl (cY 0, 8414, .inl td)), (AM 6, .inl (cY 0, 2, .inl wn)), (AM 13, .inl (cY 0, 4, .inl rw)), (AM 14, .inl (cY 0, 4, .inl br))]) [0, 1, 2, 3, 4, 5, 6, 7, 8] (by decide) rfl
          have hFc := va_free (wc := [(m0, .inr (8, mdL AM g)), (AM 0, .inl (cY 0, 72, .inl tb)), (AM 2, .inl (cY 0, 22, .inl z_16)), (AM 3, .inl (cY 0, 22, .inl rd)), (AM 4, .inl (cY 0, 110, .inl kp)), (AM 5, .inl (cY 0, 8414, .inl td)), (AM 6, .inl (cY 0, 2, .inl wn)), (AM 13, .inl (cY 0, 4, .inl rw)), (AM 14, .inl (cY 0, 4, .inl br))]) hD hS hA [0, 1, 2, 3, 4, 5, 6, 7, 8] rfl
          refine va_callv (va_runV (As := [.int 0, .int (sA 4), .int (sA 14), .int (sA 17), .int two]) (rest := []) ⟨hx, hb, hml, hown, hts⟩ (c_X8_touch0 l dC dI cY m0 AM g tb z_16 rd kp td wn rw br (sA 4) (sA 14) (sA 17) two (by (try simp only [ez_16, ez_13]); exact (hs.2.2.1 (reaches0_mv c_17))) H.size) (cwV 5 hts gX8_hitBoth_X8_touch rfl rfl rfl (by decide +kernel) ⟨Nat.le_of_ble_eq_true rfl, Nat.le_of_ble_eq_true rfl⟩) ⟨blindW, va_recv hK hPc (ci := 8) (q0 := 0) rfl rfl, fun U hU hW => ⟨rfl, wPre_of hPc hK hN hDc U hU hW⟩⟩ rfl rfl hl.1 rfl (lv_room (Nat.le_of_ble_eq_true rfl)) dX8_hitBoth_153 ⟨Nat.zero_le _, Nat.zero_le _⟩) hS (fun q _ h => hFc q h) hFc (fun u t H1 locs ht hvm hw hB hz1 hk1 hS1 => ?_)
          have hJ := wJoin (wr := []) (w1 := [(m0, .inr (8, mdL AM g)), (AM 0, .inl (cY 0, 72, .inl tb)), (AM 2, .inl (cY 0, 22, .inl (X8_touch0_w2 tb z_16 (sA 17) (sA 14) two (sA 4)))), (AM 3, .inl (cY 0, 22, .inl rd)), (AM 4, .inl (cY 0, 110, .inl kp)), (AM 5, .inl (cY 0, 8414, .inl td)), (AM 6, .inl (cY 0, 2, .inl wn)), (AM 13, .inl (cY 0, 4, .inl rw)), (AM 14, .inl (cY 0, 4, .inl br))]) (wn := [(m0, .inr (8, mdL AM g)), (AM 0, .inl (cY 0, 72, .inl tb)), (AM 2, .inl (cY 0, 22, .inl (X8_touch0_w2 tb z_16 (sA 17) (sA 14) two (sA 4)))), (AM 3, .inl (cY 0, 22, .inl rd)), (AM 4, .inl (cY 0, 110, .inl kp)), (AM 5, .inl (cY 0, 8414, .inl td)), (AM 6, .inl (cY 0, 2, .inl wn)), (AM 13, .inl (cY 0, 4, .inl rw)), (AM 14, .inl (cY 0, 4, .inl br))]) hP hD [0, 1, 2, 3, 4, 5, 6, 7, 8] [] rfl rfl (by decide) (by decide) hk1 hFc hB ht [0, 1, 2, 3, 4, 5, 6, 7, 8] rfl (by decide)
          clear hB hk1 hFc hPc hDc hP hD hS hz1 hvm ht t
          obtain ⟨hP1, hD1⟩ := hJ
          generalize H1 = H at hP1 hS1 ⊢
          have hP : va_P (dC, dI) vwCl [(m0, .inr (8, mdL AM g)), (AM 0, .inl (cY 0, 72, .inl tb)), (AM 2, .inl (cY 0, 22, .inl (X8_touch0_w2 tb z_16 (sA 17) (sA 14) two (sA 4)))), (AM 3, .inl (cY 0, 22, .inl rd)), (AM 4, .inl (cY 0, 110, .inl kp)), (AM 5, .inl (cY 0, 8414, .inl td)), (AM 6, .inl (cY 0, 2, .inl wn)), (AM 13, .inl (cY 0, 4, .inl rw)), (AM 14, .inl (cY 0, 4, .inl br))] H := hP1
          have hD : va_D A [(m0, .inr (8, mdL AM g)), (AM 0, .inl (cY 0, 72, .inl tb)), (AM 2, .inl (cY 0, 22, .inl (X8_touch0_w2 tb z_16 (sA 17) (sA 14) two (sA 4)))), (AM 3, .inl (cY 0, 22, .inl rd)), (AM 4, .inl (cY 0, 110, .inl kp)), (AM 5, .inl (cY 0, 8414, .inl td)), (AM 6, .inl (cY 0, 2, .inl wn)), (AM 13, .inl (cY 0, 4, .inl rw)), (AM 14, .inl (cY 0, 4, .inl br))] := hD1
          have hS := hS1
          clear hP1 hD1 hS1
          obtain ⟨z_27, ez_27⟩ : ∃ z, z = (X8_touch0_w2 tb z_16 (sA 17) (sA 14) two (sA 4)) := ⟨_, rfl⟩
          rw [← ez_27] at hP hD
          refine lv_iload hx hb dX8_hitBoth_156 (lv_at hl 6 rfl) ?_
          refine lv_if_eq (tgt := 174) hx hb dX8_hitBoth_158 (by decide) (fun c_28 => ?_) (fun c_28 => ?_)
          rotate_left
          · exact absurd c_24 c_28
          have eo_29 : (X8_hitBoth_w2 tb sA one two) = z_27 := by rw [X8_hitBoth_w2]; simp only [← ez_13, ← ez_16, ← ez_27, eq_false c_17, eq_true c_24, ↓reduceIte]
          have hP9 : va_P (dC, dI) vwCl [(m0, .inr (8, mdL AM g)), (AM 0, .inl (cY 0, 72, .inl tb)), (AM 2, .inl (cY 0, 22, .inl (X8_hitBoth_w2 tb sA one two))), (AM 3, .inl (cY 0, 22, .inl rd)), (AM 4, .inl (cY 0, 110, .inl kp)), (AM 5, .inl (cY 0, 8414, .inl td)), (AM 6, .inl (cY 0, 2, .inl wn)), (AM 13, .inl (cY 0, 4, .inl rw)), (AM 14, .inl (cY 0, 4, .inl br))] H := by simp only [eo_29]; exact hP
          have hD9 : va_D A [(m0, .inr (8, mdL AM g)), (AM 0, .inl (cY 0, 72, .inl tb)), (AM 2, .inl (cY 0, 22, .inl (X8_hitBoth_w2 tb sA one two))), (AM 3, .inl (cY 0, 22, .inl rd)), (AM 4, .inl (cY 0, 110, .inl kp)), (AM 5, .inl (cY 0, 8414, .inl td)), (AM 6, .inl (cY 0, 2, .inl wn)), (AM 13, .inl (cY 0, 4, .inl rw)), (AM 14, .inl (cY 0, 4, .inl br))] := by simp only [eo_29]; exact hD
          exact W.vret hx hb hr (fun t ht hW => ⟨⟨(), rfl, trivial, wPost_of hP9 hD9 ht⟩, hS.F ht⟩) hS.2.2 dX8_hitBoth_174
        · refine lv_aload_n hx hb dX8_hitBoth_100 rfl (lv_at hl 8 rfl) ?_
          refine lv_iload hx hb dX8_hitBoth_101 (lv_at hl 5 rfl) ?_
          refine lv_iconst (v := 4) hx hb dX8_hitBoth_103 (by decide) ?_
          refine vp_callSi (W.runV (As := [.int (sA 4), .int 4]) (rest := []) ⟨hx, hb, hml, hown, hts⟩ (c_X8_ofMove l dC dI cY m0 AM g tb z_16 rd kp td wn rw br (sA 4) 4 (by (try simp only [ez_16, ez_13]); exact (tb_in (hs.2.2.1 (reaches0_mv c_17)) (vin rfl)))) (cwV 2 hts gX8_hitBoth_X8_ofMove rfl rfl rfl (by decide +kernel) ⟨Nat.le_of_ble_eq_true rfl, Nat.le_of_ble_eq_true rfl⟩) ⟨blindR, va_recv hK hP (ci := 8) (q0 := 0) rfl rfl, fun U hU hW => ⟨rfl, rPre_of hP hK hN U hU hW⟩⟩ rfl rfl hl.1 rfl (lv_room (Nat.le_of_ble_eq_true rfl)) dX8_hitBoth_104 ⟨Nat.zero_le _, Nat.zero_le _⟩) (fun r_30 hw => ?_)
          subst hw
          refine lv_iconst (v := 3) hx hb dX8_hitBoth_107 (by decide) ?_
          refine lv_icmp_ne (tgt := 140) hx hb dX8_hitBoth_108 (by decide) (fun c_31 => ?_) (fun c_31 => ?_)
          · refine lv_iload_n hx hb dX8_hitBoth_140 rfl (lv_at hl 7 rfl) ?_
            refine lv_if_eq (tgt := 156) hx hb dX8_hitBoth_141 (by decide) (fun c_32 => ?_) (fun c_32 => ?_)
            · exact absurd c_32 c_17
            refine lv_aload_n hx hb dX8_hitBoth_144 rfl (lv_at hl 8 rfl) ?_
            refine lv_iconst (v := 0) hx hb dX8_hitBoth_145 (by decide) ?_
            refine lv_iload hx hb dX8_hitBoth_146 (lv_at hl 5 rfl) ?_
            refine lv_iload hx hb dX8_hitBoth_148 (lv_at hl 2 rfl) ?_
            refine lv_iload hx hb dX8_hitBoth_150 (lv_at hl 0 rfl) ?_
            refine lv_iload_n hx hb dX8_hitBoth_152 rfl (lv_at hl 10 rfl) ?_
            have hPc := hP.sub (ws' := [(m0, .inr (8, mdL AM g)), (AM 0, .inl (cY 0, 72, .inl tb)), (AM 2, .inl (cY 0, 22, .inl z_16)), (AM 3, .inl (cY 0, 22, .inl rd)), (AM 4, .inl (cY 0, 110, .inl kp)), (AM 5, .inl (cY 0, 8414, .inl td)), (AM 6, .inl (cY 0, 2, .inl wn)), (AM 13, .inl (cY 0, 4, .inl rw)), (AM 14, .inl (cY 0, 4, .inl br))]) [0, 1, 2, 3, 4, 5, 6, 7, 8] rfl
            have hDc := hD.sub (ws' := [(m0, .inr (8, mdL AM g)), (AM 0, .inl (cY 0, 72, .inl tb)), (AM 2, .inl (cY 0, 22, .inl z_16)), (AM 3, .inl (cY 0, 22, .inl rd)), (AM 4, .inl (cY 0, 110, .inl kp)), (AM 5, .inl (cY 0, 8414, .inl td)), (AM 6, .inl (cY 0, 2, .inl wn)), (AM 13, .inl (cY 0, 4, .inl rw)), (AM 14, .inl (cY 0, 4, .inl br))]) [0, 1, 2, 3, 4, 5, 6, 7, 8] (by decide) rfl
            have hFc := va_free (wc := [(m0, .inr (8, mdL AM g)), (AM 0, .inl (cY 0, 72, .inl tb)), (AM 2, .inl (cY 0, 22, .inl z_16)), (AM 3, .inl (cY 0, 22, .inl rd)), (AM 4, .inl (cY 0, 110, .inl kp)), (AM 5, .inl (cY 0, 8414, .inl td)), (AM 6, .inl (cY 0, 2, .inl wn)), (AM 13, .inl (cY 0, 4, .inl rw)), (AM 14, .inl (cY 0, 4, .inl br))]) hD hS hA [0, 1, 2, 3, 4, 5, 6, 7, 8] rfl
            refine va_callv (va_runV (As := [.int 0, .int (sA 4), .int (sA 14), .int (sA 17), .int two]) (rest := []) ⟨hx, hb, hml, hown, hts⟩ (c_X8_touch0 l dC dI cY m0 AM g tb z_16 rd kp td wn rw br (sA 4) (sA 14) (sA 17) two (by (try simp only [ez_16, ez_13]); exact (hs.2.2.1 (reaches0_mv c_17))) H.size) (cwV 5 hts gX8_hitBoth_X8_touch rfl rfl rfl (by decide +kernel) ⟨Nat.le_of_ble_eq_true rfl, Nat.le_of_ble_eq_true rfl⟩) ⟨blindW, va_recv hK hPc (ci := 8) (q0 := 0) rfl rfl, fun U hU hW => ⟨rfl, wPre_of hPc hK hN hDc U hU hW⟩⟩ rfl rfl hl.1 rfl (lv_room (Nat.le_of_ble_eq_true rfl)) dX8_hitBoth_153 ⟨Nat.zero_le _, Nat.zero_le _⟩) hS (fun q _ h => hFc q h) hFc (fun u t H1 locs ht hvm hw hB hz1 hk1 hS1 => ?_)
            have hJ := wJoin (wr := []) (w1 := [(m0, .inr (8, mdL AM g)), (AM 0, .inl (cY 0, 72, .inl tb)), (AM 2, .inl (cY 0, 22, .inl (X8_touch0_w2 tb z_16 (sA 17) (sA 14) two (sA 4)))), (AM 3, .inl (cY 0, 22, .inl rd)), (AM 4, .inl (cY 0, 110, .inl kp)), (AM 5, .inl (cY 0, 8414, .inl td)), (AM 6, .inl (cY 0, 2, .inl wn)), (AM 13, .inl (cY 0, 4, .inl rw)), (AM 14, .inl (cY 0, 4, .inl br))]) (wn := [(m0, .inr (8, mdL AM g)), (AM 0, .inl (cY 0, 72, .inl tb)), (AM 2, .inl (cY 0, 22, .inl (X8_touch0_w2 tb z_16 (sA 17) (sA 14) two (sA 4)))), (AM 3, .inl (cY 0, 22, .inl rd)), (AM 4, .inl (cY 0, 110, .inl kp)), (AM 5, .inl (cY 0, 8414, .inl td)), (AM 6, .inl (cY 0, 2, .inl wn)), (AM 13, .inl (cY 0, 4, .inl rw)), (AM 14, .inl (cY 0, 4, .inl br))]) hP hD [0, 1, 2, 3, 4, 5, 6, 7, 8] [] rfl rfl (by decide) (by decide) hk1 hFc hB ht [0, 1, 2, 3, 4, 5, 6, 7, 8] rfl (by decide)
            clear hB hk1 hFc hPc hDc hP hD hS hz1 hvm ht t
            obtain ⟨hP1, hD1⟩ := hJ
            generalize H1 = H at hP1 hS1 ⊢
            have hP : va_P (dC, dI) vwCl [(m0, .inr (8, mdL AM g)), (AM 0, .inl (cY 0, 72, .inl tb)), (AM 2, .inl (cY 0, 22, .inl (X8_touch0_w2 tb z_16 (sA 17) (sA 14) two (sA 4)))), (AM 3, .inl (cY 0, 22, .inl rd)), (AM 4, .inl (cY 0, 110, .inl kp)), (AM 5, .inl (cY 0, 8414, .inl td)), (AM 6, .inl (cY 0, 2, .inl wn)), (AM 13, .inl (cY 0, 4, .inl rw)), (AM 14, .inl (cY 0, 4, .inl br))] H := hP1
            have hD : va_D A [(m0, .inr (8, mdL AM g)), (AM 0, .inl (cY 0, 72, .inl tb)), (AM 2, .inl (cY 0, 22, .inl (X8_touch0_w2 tb z_16 (sA 17) (sA 14) two (sA 4)))), (AM 3, .inl (cY 0, 22, .inl rd)), (AM 4, .inl (cY 0, 110, .inl kp)), (AM 5, .inl (cY 0, 8414, .inl td)), (AM 6, .inl (cY 0, 2, .inl wn)), (AM 13, .inl (cY 0, 4, .inl rw)), (AM 14, .inl (cY 0, 4, .inl br))] := hD1
            have hS := hS1
            clear hP1 hD1 hS1
            obtain ⟨z_34, ez_34⟩ : ∃ z, z = (X8_touch0_w2 tb z_16 (sA 17) (sA 14) two (sA 4)) := ⟨_, rfl⟩
            rw [← ez_34] at hP hD
            refine lv_iload hx hb dX8_hitBoth_156 (lv_at hl 6 rfl) ?_
            refine lv_if_eq (tgt := 174) hx hb dX8_hitBoth_158 (by decide) (fun c_35 => ?_) (fun c_35 => ?_)
            · exact absurd c_35 c_24
            refine lv_aload_n hx hb dX8_hitBoth_161 rfl (lv_at hl 8 rfl) ?_
            refine lv_bipush (v := 11) hx hb dX8_hitBoth_162 (by decide) ?_
            refine lv_iload hx hb dX8_hitBoth_164 (lv_at hl 4 rfl) ?_
            refine lv_iload hx hb dX8_hitBoth_166 (lv_at hl 3 rfl) ?_
            refine lv_iload hx hb dX8_hitBoth_168 (lv_at hl 1 rfl) ?_
            refine lv_iload_n hx hb dX8_hitBoth_170 rfl (lv_at hl 9 rfl) ?_
            have hPc := hP.sub (ws' := [(m0, .inr (8, mdL AM g)), (AM 0, .inl (cY 0, 72, .inl tb)), (AM 2, .inl (cY 0, 22, .inl z_34)), (AM 3, .inl (cY 0, 22, .inl rd)), (AM 4, .inl (cY 0, 110, .inl kp)), (AM 5, .inl (cY 0, 8414, .inl td)), (AM 6, .inl (cY 0, 2, .inl wn)), (AM 13, .inl (cY 0, 4, .inl rw)), (AM 14, .inl (cY 0, 4, .inl br))]) [0, 1, 2, 3, 4, 5, 6, 7, 8] rfl
            have hDc := hD.sub (ws' := [(m0, .inr (8, mdL AM g)), (AM 0, .inl (cY 0, 72, .inl tb)), (AM 2, .inl (cY 0, 22, .inl z_34)), (AM 3, .inl (cY 0, 22, .inl rd)), (AM 4, .inl (cY 0, 110, .inl kp)), (AM 5, .inl (cY 0, 8414, .inl td)), (AM 6, .inl (cY 0, 2, .inl wn)), (AM 13, .inl (cY 0, 4, .inl rw)), (AM 14, .inl (cY 0, 4, .inl br))]) [0, 1, 2, 3, 4, 5, 6, 7, 8] (by decide) rfl
            have hFc := va_free (wc := [(m0, .inr (8, mdL AM g)), (AM 0, .inl (cY 0, 72, .inl tb)), (AM 2, .inl (cY 0, 22, .inl z_34)), (AM 3, .inl (cY 0, 22, .inl rd)), (AM 4, .inl (cY 0, 110, .inl kp)), (AM 5, .inl (cY 0, 8414, .inl td)), (AM 6, .inl (cY 0, 2, .inl wn)), (AM 13, .inl (cY 0, 4, .inl rw)), (AM 14, .inl (cY 0, 4, .inl br))]) hD hS hA [0, 1, 2, 3, 4, 5, 6, 7, 8] rfl
            refine va_callv (va_runV (As := [.int 11, .int (sA 15), .int (sA 3), .int (sA 6), .int one]) (rest := []) ⟨hx, hb, hml, hown, hts⟩ (c_X8_touch11 l dC dI cY m0 AM g tb z_34 rd kp td wn rw br (sA 15) (sA 3) (sA 6) one (by (try simp only [ez_34, ez_16, ez_13]); exact (hs.2.2.2 (reaches11_mv c_24))) H.size) (cwV 5 hts gX8_hitBoth_X8_touch rfl rfl rfl (by decide +kernel) ⟨Nat.le_of_ble_eq_true rfl, Nat.le_of_ble_eq_true rfl⟩) ⟨blindW, va_recv hK hPc (ci := 8) (q0 := 0) rfl rfl, fun U hU hW => ⟨rfl, wPre_of hPc hK hN hDc U hU hW⟩⟩ rfl rfl hl.1 rfl (lv_room (Nat.le_of_ble_eq_true rfl)) dX8_hitBoth_171 ⟨Nat.zero_le _, Nat.zero_le _⟩) hS (fun q _ h => hFc q h) hFc (fun u t H1 locs ht hvm hw hB hz1 hk1 hS1 => ?_)
            have hJ := wJoin (wr := []) (w1 := [(m0, .inr (8, mdL AM g)), (AM 0, .inl (cY 0, 72, .inl tb)), (AM 2, .inl (cY 0, 22, .inl (X8_touch11_w2 tb z_34 (sA 6) (sA 3) one (sA 15)))), (AM 3, .inl (cY 0, 22, .inl rd)), (AM 4, .inl (cY 0, 110, .inl kp)), (AM 5, .inl (cY 0, 8414, .inl td)), (AM 6, .inl (cY 0, 2, .inl wn)), (AM 13, .inl (cY 0, 4, .inl rw)), (AM 14, .inl (cY 0, 4, .inl br))]) (wn := [(m0, .inr (8, mdL AM g)), (AM 0, .inl (cY 0, 72, .inl tb)), (AM 2, .inl (cY 0, 22, .inl (X8_touch11_w2 tb z_34 (sA 6) (sA 3) one (sA 15)))), (AM 3, .inl (cY 0, 22, .inl rd)), (AM 4, .inl (cY 0, 110, .inl kp)), (AM 5, .inl (cY 0, 8414, .inl td)), (AM 6, .inl (cY 0, 2, .inl wn)), (AM 13, .inl (cY 0, 4, .inl rw)), (AM 14, .inl (cY 0, 4, .inl br))]) hP hD [0, 1, 2, 3, 4, 5, 6, 7, 8] [] rfl rfl (by decide) (by decide) hk1 hFc hB ht [0, 1, 2, 3, 4, 5, 6, 7, 8] rfl (by decide)
            clear hB hk1 hFc hPc hDc hP hD hS hz1 hvm ht t
            obtain ⟨hP1, hD1⟩ := hJ
            generalize H1 = H at hP1 hS1 ⊢
            have hP : va_P (dC, dI) vwCl [(m0, .inr (8, mdL AM g)), (AM 0, .inl (cY 0, 72, .inl tb)), (AM 2, .inl (cY 0, 22, .inl (X8_touch11_w2 tb z_34 (sA 6) (sA 3) one (sA 15)))), (AM 3, .inl (cY 0, 22, .inl rd)), (AM 4, .inl (cY 0, 110, .inl kp)), (AM 5, .inl (cY 0, 8414, .inl td)), (AM 6, .inl (cY 0, 2, .inl wn)), (AM 13, .inl (cY 0, 4, .inl rw)), (AM 14, .inl (cY 0, 4, .inl br))] H := hP1
            have hD : va_D A [(m0, .inr (8, mdL AM g)), (AM 0, .inl (cY 0, 72, .inl tb)), (AM 2, .inl (cY 0, 22, .inl (X8_touch11_w2 tb z_34 (sA 6) (sA 3) one (sA 15)))), (AM 3, .inl (cY 0, 22, .inl rd)), (AM 4, .inl (cY 0, 110, .inl kp)), (AM 5, .inl (cY 0, 8414, .inl td)), (AM 6, .inl (cY 0, 2, .inl wn)), (AM 13, .inl (cY 0, 4, .inl rw)), (AM 14, .inl (cY 0, 4, .inl br))] := hD1
            have hS := hS1
            clear hP1 hD1 hS1
            obtain ⟨z_37, ez_37⟩ : ∃ z, z = (X8_touch11_w2 tb z_34 (sA 6) (sA 3) one (sA 15)) := ⟨_, rfl⟩
            rw [← ez_37] at hP hD
            have eo_38 : (X8_hitBoth_w2 tb sA one two) = z_37 := by rw [X8_hitBoth_w2]; simp only [← ez_13, ← ez_16, ← ez_34, ← ez_37, eq_false c_17, eq_false c_24, eq_false c_31, ↓reduceIte]
            have hP9 : va_P (dC, dI) vwCl [(m0, .inr (8, mdL AM g)), (AM 0, .inl (cY 0, 72, .inl tb)), (AM 2, .inl (cY 0, 22, .inl (X8_hitBoth_w2 tb sA one two))), (AM 3, .inl (cY 0, 22, .inl rd)), (AM 4, .inl (cY 0, 110, .inl kp)), (AM 5, .inl (cY 0, 8414, .inl td)), (AM 6, .inl (cY 0, 2, .inl wn)), (AM 13, .inl (cY 0, 4, .inl rw)), (AM 14, .inl (cY 0, 4, .inl br))] H := by simp only [eo_38]; exact hP
            have hD9 : va_D A [(m0, .inr (8, mdL AM g)), (AM 0, .inl (cY 0, 72, .inl tb)), (AM 2, .inl (cY 0, 22, .inl (X8_hitBoth_w2 tb sA one two))), (AM 3, .inl (cY 0, 22, .inl rd)), (AM 4, .inl (cY 0, 110, .inl kp)), (AM 5, .inl (cY 0, 8414, .inl td)), (AM 6, .inl (cY 0, 2, .inl wn)), (AM 13, .inl (cY 0, 4, .inl rw)), (AM 14, .inl (cY 0, 4, .inl br))] := by simp only [eo_38]; exact hD
            exact W.vret hx hb hr (fun t ht hW => ⟨⟨(), rfl, trivial, wPost_of hP9 hD9 ht⟩, hS.F ht⟩) hS.2.2 dX8_hitBoth_174
          · refine lv_aload_n hx hb dX8_hitBoth_111 rfl (lv_at hl 8 rfl) ?_
            refine lv_iload hx hb dX8_hitBoth_112 (lv_at hl 4 rfl) ?_
            refine lv_iconst (v := 4) hx hb dX8_hitBoth_114 (by decide) ?_
            refine vp_callSi (W.runV (As := [.int (sA 15), .int 4]) (rest := []) ⟨hx, hb, hml, hown, hts⟩ (c_X8_ofMove l dC dI cY m0 AM g tb z_16 rd kp td wn rw br (sA 15) 4 (by (try simp only [ez_16, ez_13]); exact (tb_in (hs.2.2.2 (reaches11_mv c_24)) (vin rfl)))) (cwV 2 hts gX8_hitBoth_X8_ofMove rfl rfl rfl (by decide +kernel) ⟨Nat.le_of_ble_eq_true rfl, Nat.le_of_ble_eq_true rfl⟩) ⟨blindR, va_recv hK hP (ci := 8) (q0 := 0) rfl rfl, fun U hU hW => ⟨rfl, rPre_of hP hK hN U hU hW⟩⟩ rfl rfl hl.1 rfl (lv_room (Nat.le_of_ble_eq_true rfl)) dX8_hitBoth_115 ⟨Nat.zero_le _, Nat.zero_le _⟩) (fun r_39 hw => ?_)
            subst hw
            refine lv_iconst (v := 3) hx hb dX8_hitBoth_118 (by decide) ?_
            refine lv_icmp_ne (tgt := 140) hx hb dX8_hitBoth_119 (by decide) (fun c_40 => ?_) (fun c_40 => ?_)
            · refine lv_iload_n hx hb dX8_hitBoth_140 rfl (lv_at hl 7 rfl) ?_
              refine lv_if_eq (tgt := 156) hx hb dX8_hitBoth_141 (by decide) (fun c_41 => ?_) (fun c_41 => ?_)
              · exact absurd c_41 c_17
              refine lv_aload_n hx hb dX8_hitBoth_144 rfl (lv_at hl 8 rfl) ?_
              refine lv_iconst (v := 0) hx hb dX8_hitBoth_145 (by decide) ?_
              refine lv_iload hx hb dX8_hitBoth_146 (lv_at hl 5 rfl) ?_
              refine lv_iload hx hb dX8_hitBoth_148 (lv_at hl 2 rfl) ?_
              refine lv_iload hx hb dX8_hitBoth_150 (lv_at hl 0 rfl) ?_
              refine lv_iload_n hx hb dX8_hitBoth_152 rfl (lv_at hl 10 rfl) ?_
              have hPc := hP.sub (ws' := [(m0, .inr (8, mdL AM g)), (AM 0, .inl (cY 0, 72, .inl tb)), (AM 2, .inl (cY 0, 22, .inl z_16)), (AM 3, .inl (cY 0, 22, .inl rd)), (AM 4, .inl (cY 0, 110, .inl kp)), (AM 5, .inl (cY 0, 8414, .inl td)), (AM 6, .inl (cY 0, 2, .inl wn)), (AM 13, .inl (cY 0, 4, .inl rw)), (AM 14, .inl (cY 0, 4, .inl br))]) [0, 1, 2, 3, 4, 5, 6, 7, 8] rfl
              have hDc := hD.sub (ws' := [(m0, .inr (8, mdL AM g)), (AM 0, .inl (cY 0, 72, .inl tb)), (AM 2, .inl (cY 0, 22, .inl z_16)), (AM 3, .inl (cY 0, 22, .inl rd)), (AM 4, .inl (cY 0, 110, .inl kp)), (AM 5, .inl (cY 0, 8414, .inl td)), (AM 6, .inl (cY 0, 2, .inl wn)), (AM 13, .inl (cY 0, 4, .inl rw)), (AM 14, .inl (cY 0, 4, .inl br))]) [0, 1, 2, 3, 4, 5, 6, 7, 8] (by decide) rfl
              have hFc := va_free (wc := [(m0, .inr (8, mdL AM g)), (AM 0, .inl (cY 0, 72, .inl tb)), (AM 2, .inl (cY 0, 22, .inl z_16)), (AM 3, .inl (cY 0, 22, .inl rd)), (AM 4, .inl (cY 0, 110, .inl kp)), (AM 5, .inl (cY 0, 8414, .inl td)), (AM 6, .inl (cY 0, 2, .inl wn)), (AM 13, .inl (cY 0, 4, .inl rw)), (AM 14, .inl (cY 0, 4, .inl br))]) hD hS hA [0, 1, 2, 3, 4, 5, 6, 7, 8] rfl
              refine va_callv (va_runV (As := [.int 0, .int (sA 4), .int (sA 14), .int (sA 17), .int two]) (rest := []) ⟨hx, hb, hml, hown, hts⟩ (c_X8_touch0 l dC dI cY m0 AM g tb z_16 rd kp td wn rw br (sA 4) (sA 14) (sA 17) two (by (try simp only [ez_16, ez_13]); exact (hs.2.2.1 (reaches0_mv c_17))) H.size) (cwV 5 hts gX8_hitBoth_X8_touch rfl rfl rfl (by decide +kernel) ⟨Nat.le_of_ble_eq_true rfl, Nat.le_of_ble_eq_true rfl⟩) ⟨blindW, va_recv hK hPc (ci := 8) (q0 := 0) rfl rfl, fun U hU hW => ⟨rfl, wPre_of hPc hK hN hDc U hU hW⟩⟩ rfl rfl hl.1 rfl (lv_room (Nat.le_of_ble_eq_true rfl)) dX8_hitBoth_153 ⟨Nat.zero_le _, Nat.zero_le _⟩) hS (fun q _ h => hFc q h) hFc (fun u t H1 locs ht hvm hw hB hz1 hk1 hS1 => ?_)
              have hJ := wJoin (wr := []) (w1 := [(m0, .inr (8, mdL AM g)), (AM 0, .inl (cY 0, 72, .inl tb)), (AM 2, .inl (cY 0, 22, .inl (X8_touch0_w2 tb z_16 (sA 17) (sA 14) two (sA 4)))), (AM 3, .inl (cY 0, 22, .inl rd)), (AM 4, .inl (cY 0, 110, .inl kp)), (AM 5, .inl (cY 0, 8414, .inl td)), (AM 6, .inl (cY 0, 2, .inl wn)), (AM 13, .inl (cY 0, 4, .inl rw)), (AM 14, .inl (cY 0, 4, .inl br))]) (wn := [(m0, .inr (8, mdL AM g)), (AM 0, .inl (cY 0, 72, .inl tb)), (AM 2, .inl (cY 0, 22, .inl (X8_touch0_w2 tb z_16 (sA 17) (sA 14) two (sA 4)))), (AM 3, .inl (cY 0, 22, .inl rd)), (AM 4, .inl (cY 0, 110, .inl kp)), (AM 5, .inl (cY 0, 8414, .inl td)), (AM 6, .inl (cY 0, 2, .inl wn)), (AM 13, .inl (cY 0, 4, .inl rw)), (AM 14, .inl (cY 0, 4, .inl br))]) hP hD [0, 1, 2, 3, 4, 5, 6, 7, 8] [] rfl rfl (by decide) (by decide) hk1 hFc hB ht [0, 1, 2, 3, 4, 5, 6, 7, 8] rfl (by decide)
              clear hB hk1 hFc hPc hDc hP hD hS hz1 hvm ht t
              obtain ⟨hP1, hD1⟩ := hJ
              generalize H1 = H at hP1 hS1 ⊢
              have hP : va_P (dC, dI) vwCl [(m0, .inr (8, mdL AM g)), (AM 0, .inl (cY 0, 72, .inl tb)), (AM 2, .inl (cY 0, 22, .inl (X8_touch0_w2 tb z_16 (sA 17) (sA 14) two (sA 4)))), (AM 3, .inl (cY 0, 22, .inl rd)), (AM 4, .inl (cY 0, 110, .inl kp)), (AM 5, .inl (cY 0, 8414, .inl td)), (AM 6, .inl (cY 0, 2, .inl wn)), (AM 13, .inl (cY 0, 4, .inl rw)), (AM 14, .inl (cY 0, 4, .inl br))] H := hP1
              have hD : va_D A [(m0, .inr (8, mdL AM g)), (AM 0, .inl (cY 0, 72, .inl tb)), (AM 2, .inl (cY 0, 22, .inl (X8_touch0_w2 tb z_16 (sA 17) (sA 14) two (sA 4)))), (AM 3, .inl (cY 0, 22, .inl rd)), (AM 4, .inl (cY 0, 110, .inl kp)), (AM 5, .inl (cY 0, 8414, .inl td)), (AM 6, .inl (cY 0, 2, .inl wn)), (AM 13, .inl (cY 0, 4, .inl rw)), (AM 14, .inl (cY 0, 4, .inl br))] := hD1
              have hS := hS1
              clear hP1 hD1 hS1
              obtain ⟨z_43, ez_43⟩ : ∃ z, z = (X8_touch0_w2 tb z_16 (sA 17) (sA 14) two (sA 4)) := ⟨_, rfl⟩
              rw [← ez_43] at hP hD
              refine lv_iload hx hb dX8_hitBoth_156 (lv_at hl 6 rfl) ?_
              refine lv_if_eq (tgt := 174) hx hb dX8_hitBoth_158 (by decide) (fun c_44 => ?_) (fun c_44 => ?_)
              · exact absurd c_44 c_24
              refine lv_aload_n hx hb dX8_hitBoth_161 rfl (lv_at hl 8 rfl) ?_
              refine lv_bipush (v := 11) hx hb dX8_hitBoth_162 (by decide) ?_
              refine lv_iload hx hb dX8_hitBoth_164 (lv_at hl 4 rfl) ?_
              refine lv_iload hx hb dX8_hitBoth_166 (lv_at hl 3 rfl) ?_
              refine lv_iload hx hb dX8_hitBoth_168 (lv_at hl 1 rfl) ?_
              refine lv_iload_n hx hb dX8_hitBoth_170 rfl (lv_at hl 9 rfl) ?_
              have hPc := hP.sub (ws' := [(m0, .inr (8, mdL AM g)), (AM 0, .inl (cY 0, 72, .inl tb)), (AM 2, .inl (cY 0, 22, .inl z_43)), (AM 3, .inl (cY 0, 22, .inl rd)), (AM 4, .inl (cY 0, 110, .inl kp)), (AM 5, .inl (cY 0, 8414, .inl td)), (AM 6, .inl (cY 0, 2, .inl wn)), (AM 13, .inl (cY 0, 4, .inl rw)), (AM 14, .inl (cY 0, 4, .inl br))]) [0, 1, 2, 3, 4, 5, 6, 7, 8] rfl
              have hDc := hD.sub (ws' := [(m0, .inr (8, mdL AM g)), (AM 0, .inl (cY 0, 72, .inl tb)), (AM 2, .inl (cY 0, 22, .inl z_43)), (AM 3, .inl (cY 0, 22, .inl rd)), (AM 4, .inl (cY 0, 110, .inl kp)), (AM 5, .inl (cY 0, 8414, .inl td)), (AM 6, .inl (cY 0, 2, .inl wn)), (AM 13, .inl (cY 0, 4, .inl rw)), (AM 14, .inl (cY 0, 4, .inl br))]) [0, 1, 2, 3, 4, 5, 6, 7, 8] (by decide) rfl
              have hFc := va_free (wc := [(m0, .inr (8, mdL AM g)), (AM 0, .inl (cY 0, 72, .inl tb)), (AM 2, .inl (cY 0, 22, .inl z_43)), (AM 3, .inl (cY 0, 22, .inl rd)), (AM 4, .inl (cY 0, 110, .inl kp)), (AM 5, .inl (cY 0, 8414, .inl td)), (AM 6, .inl (cY 0, 2, .inl wn)), (AM 13, .inl (cY 0, 4, .inl rw)), (AM 14, .inl (cY 0, 4, .inl br))]) hD hS hA [0, 1, 2, 3, 4, 5, 6, 7, 8] rfl
              refine va_callv (va_runV (As := [.int 11, .int (sA 15), .int (sA 3), .int (sA 6), .int one]) (rest := []) ⟨hx, hb, hml, hown, hts⟩ (c_X8_touch11 l dC dI cY m0 AM g tb z_43 rd kp td wn rw br (sA 15) (sA 3) (sA 6) one (by (try simp only [ez_43, ez_16, ez_13]); exact (hs.2.2.2 (reaches11_mv c_24))) H.size) (cwV 5 hts gX8_hitBoth_X8_touch rfl rfl rfl (by decide +kernel) ⟨Nat.le_of_ble_eq_true rfl, Nat.le_of_ble_eq_true rfl⟩) ⟨blindW, va_recv hK hPc (ci := 8) (q0 := 0) rfl rfl, fun U hU hW => ⟨rfl, wPre_of hPc hK hN hDc U hU hW⟩⟩ rfl rfl hl.1 rfl (lv_room (Nat.le_of_ble_eq_true rfl)) dX8_hitBoth_171 ⟨Nat.zero_le _, Nat.zero_le _⟩) hS (fun q _ h => hFc q h) hFc (fun u t H1 locs ht hvm hw hB hz1 hk1 hS1 => ?_)
              have hJ := wJoin (wr := []) (w1 := [(m0, .inr (8, mdL AM g)), (AM 0, .inl (cY 0, 72, .inl tb)), (AM 2, .inl (cY 0, 22, .inl (X8_touch11_w2 tb z_43 (sA 6) (sA 3) one (sA 15)))), (AM 3, .inl (cY 0, 22, .inl rd)), (AM 4, .inl (cY 0, 110, .inl kp)), (AM 5, .inl (cY 0, 8414, .inl td)), (AM 6, .inl (cY 0, 2, .inl wn)), (AM 13, .inl (cY 0, 4, .inl rw)), (AM 14, .inl (cY 0, 4, .inl br))]) (wn := [(m0, .inr (8, mdL AM g)), (AM 0, .inl (cY 0, 72, .inl tb)), (AM 2, .inl (cY 0, 22, .inl (X8_touch11_w2 tb z_43 (sA 6) (sA 3) one (sA 15)))), (AM 3, .inl (cY 0, 22, .inl rd)), (AM 4, .inl (cY 0, 110, .inl kp)), (AM 5, .inl (cY 0, 8414, .inl td)), (AM 6, .inl (cY 0, 2, .inl wn)), (AM 13, .inl (cY 0, 4, .inl rw)), (AM 14, .inl (cY 0, 4, .inl br))]) hP hD [0, 1, 2, 3, 4, 5, 6, 7, 8] [] rfl rfl (by decide) (by decide) hk1 hFc hB ht [0, 1, 2, 3, 4, 5, 6, 7, 8] rfl (by decide)
              clear hB hk1 hFc hPc hDc hP hD hS hz1 hvm ht t
              obtain ⟨hP1, hD1⟩ := hJ
              generalize H1 = H at hP1 hS1 ⊢
              have hP : va_P (dC, dI) vwCl [(m0, .inr (8, mdL AM g)), (AM 0, .inl (cY 0, 72, .inl tb)), (AM 2, .inl (cY 0, 22, .inl (X8_touch11_w2 tb z_43 (sA 6) (sA 3) one (sA 15)))), (AM 3, .inl (cY 0, 22, .inl rd)), (AM 4, .inl (cY 0, 110, .inl kp)), (AM 5, .inl (cY 0, 8414, .inl td)), (AM 6, .inl (cY 0, 2, .inl wn)), (AM 13, .inl (cY 0, 4, .inl rw)), (AM 14, .inl (cY 0, 4, .inl br))] H := hP1
              have hD : va_D A [(m0, .inr (8, mdL AM g)), (AM 0, .inl (cY 0, 72, .inl tb)), (AM 2, .inl (cY 0, 22, .inl (X8_touch11_w2 tb z_43 (sA 6) (sA 3) one (sA 15)))), (AM 3, .inl (cY 0, 22, .inl rd)), (AM 4, .inl (cY 0, 110, .inl kp)), (AM 5, .inl (cY 0, 8414, .inl td)), (AM 6, .inl (cY 0, 2, .inl wn)), (AM 13, .inl (cY 0, 4, .inl rw)), (AM 14, .inl (cY 0, 4, .inl br))] := hD1
              have hS := hS1
              clear hP1 hD1 hS1
              obtain ⟨z_46, ez_46⟩ : ∃ z, z = (X8_touch11_w2 tb z_43 (sA 6) (sA 3) one (sA 15)) := ⟨_, rfl⟩
              rw [← ez_46] at hP hD
              have eo_47 : (X8_hitBoth_w2 tb sA one two) = z_46 := by rw [X8_hitBoth_w2]; simp only [← ez_13, ← ez_16, ← ez_43, ← ez_46, eq_false c_17, eq_false c_24, eq_true c_31, eq_false c_40, ↓reduceIte]
              have hP9 : va_P (dC, dI) vwCl [(m0, .inr (8, mdL AM g)), (AM 0, .inl (cY 0, 72, .inl tb)), (AM 2, .inl (cY 0, 22, .inl (X8_hitBoth_w2 tb sA one two))), (AM 3, .inl (cY 0, 22, .inl rd)), (AM 4, .inl (cY 0, 110, .inl kp)), (AM 5, .inl (cY 0, 8414, .inl td)), (AM 6, .inl (cY 0, 2, .inl wn)), (AM 13, .inl (cY 0, 4, .inl rw)), (AM 14, .inl (cY 0, 4, .inl br))] H := by simp only [eo_47]; exact hP
              have hD9 : va_D A [(m0, .inr (8, mdL AM g)), (AM 0, .inl (cY 0, 72, .inl tb)), (AM 2, .inl (cY 0, 22, .inl (X8_hitBoth_w2 tb sA one two))), (AM 3, .inl (cY 0, 22, .inl rd)), (AM 4, .inl (cY 0, 110, .inl kp)), (AM 5, .inl (cY 0, 8414, .inl td)), (AM 6, .inl (cY 0, 2, .inl wn)), (AM 13, .inl (cY 0, 4, .inl rw)), (AM 14, .inl (cY 0, 4, .inl br))] := by simp only [eo_47]; exact hD
              exact W.vret hx hb hr (fun t ht hW => ⟨⟨(), rfl, trivial, wPost_of hP9 hD9 ht⟩, hS.F ht⟩) hS.2.2 dX8_hitBoth_174
            · refine lv_aload_n hx hb dX8_hitBoth_122 rfl (lv_at hl 8 rfl) ?_
              refine lv_iconst (v := 0) hx hb dX8_hitBoth_123 (by decide) ?_
              refine lv_bipush (v := 20) hx hb dX8_hitBoth_124 (by decide) ?_
              have hPc := hP.sub (ws' := [(m0, .inr (8, mdL AM g)), (AM 0, .inl (cY 0, 72, .inl tb)), (AM 2, .inl (cY 0, 22, .inl z_16)), (AM 3, .inl (cY 0, 22, .inl rd)), (AM 4, .inl (cY 0, 110, .inl kp)), (AM 5, .inl (cY 0, 8414, .inl td)), (AM 6, .inl (cY 0, 2, .inl wn)), (AM 13, .inl (cY 0, 4, .inl rw)), (AM 14, .inl (cY 0, 4, .inl br))]) [0, 1, 2, 3, 4, 5, 6, 7, 8] rfl
              have hDc := hD.sub (ws' := [(m0, .inr (8, mdL AM g)), (AM 0, .inl (cY 0, 72, .inl tb)), (AM 2, .inl (cY 0, 22, .inl z_16)), (AM 3, .inl (cY 0, 22, .inl rd)), (AM 4, .inl (cY 0, 110, .inl kp)), (AM 5, .inl (cY 0, 8414, .inl td)), (AM 6, .inl (cY 0, 2, .inl wn)), (AM 13, .inl (cY 0, 4, .inl rw)), (AM 14, .inl (cY 0, 4, .inl br))]) [0, 1, 2, 3, 4, 5, 6, 7, 8] (by decide) rfl
              have hFc := va_free (wc := [(m0, .inr (8, mdL AM g)), (AM 0, .inl (cY 0, 72, .inl tb)), (AM 2, .inl (cY 0, 22, .inl z_16)), (AM 3, .inl (cY 0, 22, .inl rd)), (AM 4, .inl (cY 0, 110, .inl kp)), (AM 5, .inl (cY 0, 8414, .inl td)), (AM 6, .inl (cY 0, 2, .inl wn)), (AM 13, .inl (cY 0, 4, .inl rw)), (AM 14, .inl (cY 0, 4, .inl br))]) hD hS hA [0, 1, 2, 3, 4, 5, 6, 7, 8] rfl
              refine va_calli (va_runV (As := [.int 0, .int 20]) (rest := []) ⟨hx, hb, hml, hown, hts⟩ (c_X8_goBack0 l dC dI cY m0 AM g tb z_16 rd kp td wn rw br 20 H.size) (cwV 2 hts gX8_hitBoth_X8_goBack rfl rfl rfl (by decide +kernel) ⟨Nat.le_of_ble_eq_true rfl, Nat.le_of_ble_eq_true rfl⟩) ⟨blindW, va_recv hK hPc (ci := 8) (q0 := 0) rfl rfl, fun U hU hW => ⟨rfl, wPre_of hPc hK hN hDc U hU hW⟩⟩ rfl rfl hl.1 rfl (lv_room (Nat.le_of_ble_eq_true rfl)) dX8_hitBoth_126 ⟨Nat.zero_le _, Nat.zero_le _⟩) hS (fun q _ h => hFc q h) hFc (fun r_48 u t H1 locs ht hvm hw hB hz1 hk1 hS1 => ?_)
              subst hw
              have hJ := wJoin (wr := []) (w1 := [(m0, .inr (8, mdL AM g)), (AM 0, .inl (cY 0, 72, .inl tb)), (AM 2, .inl (cY 0, 22, .inl (X8_goBack0_w2 z_16 20))), (AM 3, .inl (cY 0, 22, .inl rd)), (AM 4, .inl (cY 0, 110, .inl kp)), (AM 5, .inl (cY 0, 8414, .inl td)), (AM 6, .inl (cY 0, 2, .inl wn)), (AM 13, .inl (cY 0, 4, .inl rw)), (AM 14, .inl (cY 0, 4, .inl br))]) (wn := [(m0, .inr (8, mdL AM g)), (AM 0, .inl (cY 0, 72, .inl tb)), (AM 2, .inl (cY 0, 22, .inl (X8_goBack0_w2 z_16 20))), (AM 3, .inl (cY 0, 22, .inl rd)), (AM 4, .inl (cY 0, 110, .inl kp)), (AM 5, .inl (cY 0, 8414, .inl td)), (AM 6, .inl (cY 0, 2, .inl wn)), (AM 13, .inl (cY 0, 4, .inl rw)), (AM 14, .inl (cY 0, 4, .inl br))]) hP hD [0, 1, 2, 3, 4, 5, 6, 7, 8] [] rfl rfl (by decide) (by decide) hk1 hFc hB ht [0, 1, 2, 3, 4, 5, 6, 7, 8] rfl (by decide)
              clear hB hk1 hFc hPc hDc hP hD hS hz1 hvm ht t
              obtain ⟨hP1, hD1⟩ := hJ
              generalize H1 = H at hP1 hS1 ⊢
              have hP : va_P (dC, dI) vwCl [(m0, .inr (8, mdL AM g)), (AM 0, .inl (cY 0, 72, .inl tb)), (AM 2, .inl (cY 0, 22, .inl (X8_goBack0_w2 z_16 20))), (AM 3, .inl (cY 0, 22, .inl rd)), (AM 4, .inl (cY 0, 110, .inl kp)), (AM 5, .inl (cY 0, 8414, .inl td)), (AM 6, .inl (cY 0, 2, .inl wn)), (AM 13, .inl (cY 0, 4, .inl rw)), (AM 14, .inl (cY 0, 4, .inl br))] H := hP1
              have hD : va_D A [(m0, .inr (8, mdL AM g)), (AM 0, .inl (cY 0, 72, .inl tb)), (AM 2, .inl (cY 0, 22, .inl (X8_goBack0_w2 z_16 20))), (AM 3, .inl (cY 0, 22, .inl rd)), (AM 4, .inl (cY 0, 110, .inl kp)), (AM 5, .inl (cY 0, 8414, .inl td)), (AM 6, .inl (cY 0, 2, .inl wn)), (AM 13, .inl (cY 0, 4, .inl rw)), (AM 14, .inl (cY 0, 4, .inl br))] := hD1
              have hS := hS1
              clear hP1 hD1 hS1
              obtain ⟨z_49, ez_49⟩ : ∃ z, z = (X8_goBack0_w2 z_16 20) := ⟨_, rfl⟩
              rw [← ez_49] at hP hD
              refine lv_pop hx hb dX8_hitBoth_129 rfl ?_
              refine lv_aload_n hx hb dX8_hitBoth_130 rfl (lv_at hl 8 rfl) ?_
              refine lv_bipush (v := 11) hx hb dX8_hitBoth_131 (by decide) ?_
              refine lv_bipush (v := 20) hx hb dX8_hitBoth_133 (by decide) ?_
              have hPc := hP.sub (ws' := [(m0, .inr (8, mdL AM g)), (AM 0, .inl (cY 0, 72, .inl tb)), (AM 2, .inl (cY 0, 22, .inl z_49)), (AM 3, .inl (cY 0, 22, .inl rd)), (AM 4, .inl (cY 0, 110, .inl kp)), (AM 5, .inl (cY 0, 8414, .inl td)), (AM 6, .inl (cY 0, 2, .inl wn)), (AM 13, .inl (cY 0, 4, .inl rw)), (AM 14, .inl (cY 0, 4, .inl br))]) [0, 1, 2, 3, 4, 5, 6, 7, 8] rfl
              have hDc := hD.sub (ws' := [(m0, .inr (8, mdL AM g)), (AM 0, .inl (cY 0, 72, .inl tb)), (AM 2, .inl (cY 0, 22, .inl z_49)), (AM 3, .inl (cY 0, 22, .inl rd)), (AM 4, .inl (cY 0, 110, .inl kp)), (AM 5, .inl (cY 0, 8414, .inl td)), (AM 6, .inl (cY 0, 2, .inl wn)), (AM 13, .inl (cY 0, 4, .inl rw)), (AM 14, .inl (cY 0, 4, .inl br))]) [0, 1, 2, 3, 4, 5, 6, 7, 8] (by decide) rfl
              have hFc := va_free (wc := [(m0, .inr (8, mdL AM g)), (AM 0, .inl (cY 0, 72, .inl tb)), (AM 2, .inl (cY 0, 22, .inl z_49)), (AM 3, .inl (cY 0, 22, .inl rd)), (AM 4, .inl (cY 0, 110, .inl kp)), (AM 5, .inl (cY 0, 8414, .inl td)), (AM 6, .inl (cY 0, 2, .inl wn)), (AM 13, .inl (cY 0, 4, .inl rw)), (AM 14, .inl (cY 0, 4, .inl br))]) hD hS hA [0, 1, 2, 3, 4, 5, 6, 7, 8] rfl
              refine va_calli (va_runV (As := [.int 11, .int 20]) (rest := []) ⟨hx, hb, hml, hown, hts⟩ (c_X8_goBack11 l dC dI cY m0 AM g tb z_49 rd kp td wn rw br 20 H.size) (cwV 2 hts gX8_hitBoth_X8_goBack rfl rfl rfl (by decide +kernel) ⟨Nat.le_of_ble_eq_true rfl, Nat.le_of_ble_eq_true rfl⟩) ⟨blindW, va_recv hK hPc (ci := 8) (q0 := 0) rfl rfl, fun U hU hW => ⟨rfl, wPre_of hPc hK hN hDc U hU hW⟩⟩ rfl rfl hl.1 rfl (lv_room (Nat.le_of_ble_eq_true rfl)) dX8_hitBoth_135 ⟨Nat.zero_le _, Nat.zero_le _⟩) hS (fun q _ h => hFc q h) hFc (fun r_50 u t H1 locs ht hvm hw hB hz1 hk1 hS1 => ?_)
              subst hw
              have hJ := wJoin (wr := []) (w1 := [(m0, .inr (8, mdL AM g)), (AM 0, .inl (cY 0, 72, .inl tb)), (AM 2, .inl (cY 0, 22, .inl (X8_goBack11_w2 z_49 20))), (AM 3, .inl (cY 0, 22, .inl rd)), (AM 4, .inl (cY 0, 110, .inl kp)), (AM 5, .inl (cY 0, 8414, .inl td)), (AM 6, .inl (cY 0, 2, .inl wn)), (AM 13, .inl (cY 0, 4, .inl rw)), (AM 14, .inl (cY 0, 4, .inl br))]) (wn := [(m0, .inr (8, mdL AM g)), (AM 0, .inl (cY 0, 72, .inl tb)), (AM 2, .inl (cY 0, 22, .inl (X8_goBack11_w2 z_49 20))), (AM 3, .inl (cY 0, 22, .inl rd)), (AM 4, .inl (cY 0, 110, .inl kp)), (AM 5, .inl (cY 0, 8414, .inl td)), (AM 6, .inl (cY 0, 2, .inl wn)), (AM 13, .inl (cY 0, 4, .inl rw)), (AM 14, .inl (cY 0, 4, .inl br))]) hP hD [0, 1, 2, 3, 4, 5, 6, 7, 8] [] rfl rfl (by decide) (by decide) hk1 hFc hB ht [0, 1, 2, 3, 4, 5, 6, 7, 8] rfl (by decide)
              clear hB hk1 hFc hPc hDc hP hD hS hz1 hvm ht t
              obtain ⟨hP1, hD1⟩ := hJ
              generalize H1 = H at hP1 hS1 ⊢
              have hP : va_P (dC, dI) vwCl [(m0, .inr (8, mdL AM g)), (AM 0, .inl (cY 0, 72, .inl tb)), (AM 2, .inl (cY 0, 22, .inl (X8_goBack11_w2 z_49 20))), (AM 3, .inl (cY 0, 22, .inl rd)), (AM 4, .inl (cY 0, 110, .inl kp)), (AM 5, .inl (cY 0, 8414, .inl td)), (AM 6, .inl (cY 0, 2, .inl wn)), (AM 13, .inl (cY 0, 4, .inl rw)), (AM 14, .inl (cY 0, 4, .inl br))] H := hP1
              have hD : va_D A [(m0, .inr (8, mdL AM g)), (AM 0, .inl (cY 0, 72, .inl tb)), (AM 2, .inl (cY 0, 22, .inl (X8_goBack11_w2 z_49 20))), (AM 3, .inl (cY 0, 22, .inl rd)), (AM 4, .inl (cY 0, 110, .inl kp)), (AM 5, .inl (cY 0, 8414, .inl td)), (AM 6, .inl (cY 0, 2, .inl wn)), (AM 13, .inl (cY 0, 4, .inl rw)), (AM 14, .inl (cY 0, 4, .inl br))] := hD1
              have hS := hS1
              clear hP1 hD1 hS1
              obtain ⟨z_51, ez_51⟩ : ∃ z, z = (X8_goBack11_w2 z_49 20) := ⟨_, rfl⟩
              rw [← ez_51] at hP hD
              refine lv_pop hx hb dX8_hitBoth_138 rfl ?_
              have eo_52 : (X8_hitBoth_w2 tb sA one two) = z_51 := by rw [X8_hitBoth_w2]; simp only [← ez_13, ← ez_16, ← ez_49, ← ez_51, eq_false c_17, eq_false c_24, eq_true c_31, eq_true c_40, ↓reduceIte]
              have hP9 : va_P (dC, dI) vwCl [(m0, .inr (8, mdL AM g)), (AM 0, .inl (cY 0, 72, .inl tb)), (AM 2, .inl (cY 0, 22, .inl (X8_hitBoth_w2 tb sA one two))), (AM 3, .inl (cY 0, 22, .inl rd)), (AM 4, .inl (cY 0, 110, .inl kp)), (AM 5, .inl (cY 0, 8414, .inl td)), (AM 6, .inl (cY 0, 2, .inl wn)), (AM 13, .inl (cY 0, 4, .inl rw)), (AM 14, .inl (cY 0, 4, .inl br))] H := by simp only [eo_52]; exact hP
              have hD9 : va_D A [(m0, .inr (8, mdL AM g)), (AM 0, .inl (cY 0, 72, .inl tb)), (AM 2, .inl (cY 0, 22, .inl (X8_hitBoth_w2 tb sA one two))), (AM 3, .inl (cY 0, 22, .inl rd)), (AM 4, .inl (cY 0, 110, .inl kp)), (AM 5, .inl (cY 0, 8414, .inl td)), (AM 6, .inl (cY 0, 2, .inl wn)), (AM 13, .inl (cY 0, 4, .inl rw)), (AM 14, .inl (cY 0, 4, .inl br))] := by simp only [eo_52]; exact hD
              exact W.vret hx hb hr (fun t ht hW => ⟨⟨(), rfl, trivial, wPost_of hP9 hD9 ht⟩, hS.F ht⟩) hS.2.2 dX8_hitBoth_139
    · intro jn_15
      refine lv_if_eq (tgt := 91) hx hb dX8_hitBoth_80 (by decide) (fun c_14 => ?_) (fun c_14 => ?_)
      · have e_53 : (X8_hitBoth_j91 tb sA) = z_13 := by rw [X8_hitBoth_j91]; simp only [← ez_13, eq_true c_14, ↓reduceIte]
        exact jn_15 _ _ _ (by (try simp only [e_53]); exact hP) (by (try simp only [e_53]); exact hD) hS (by (try simp only [e_53]); exact (lv_sub hl [0, 1, 2, 3, 4, 5, 6, 7, 8, 9, 10] rfl))
      · refine lv_aload_n hx hb dX8_hitBoth_83 rfl (lv_at hl 8 rfl) ?_
        refine va_get (D := (dC, dI)) (ci := 8) (v := .ref (AM 2)) (C := RX8) (T := TX8) (N := 17) hx hb hts inw_X8_hitBoth_X8 hown hK hP 0 rfl rfl 2 (by decide) (hts (.fieldLink RX8 13 "DuelFramesModel" "s" "[I") (List.mem_of_getElem? (i := 1) rfl)) (fun _ h9 => h9) rfl dX8_hitBoth_84 ?_
        refine lv_bipush (v := 20) hx hb dX8_hitBoth_87 (by decide) ?_
        refine lv_iconst (v := 0) hx hb dX8_hitBoth_89 (by decide) ?_
        refine va_iast hx hb hK hP hD hS 2 0 rfl rfl (vin rfl) dX8_hitBoth_90 (fun H locs hP1 hD1 hS1 => ?_)
        clear hP hD hS
        have hP : va_P (dC, dI) vwCl [(m0, .inr (8, mdL AM g)), (AM 0, .inl (cY 0, 72, .inl tb)), (AM 2, .inl (cY 0, 22, .inl (upd z_13 20 0))), (AM 3, .inl (cY 0, 22, .inl rd)), (AM 4, .inl (cY 0, 110, .inl kp)), (AM 5, .inl (cY 0, 8414, .inl td)), (AM 6, .inl (cY 0, 2, .inl wn)), (AM 13, .inl (cY 0, 4, .inl rw)), (AM 14, .inl (cY 0, 4, .inl br))] H := hP1
        have hD : va_D A [(m0, .inr (8, mdL AM g)), (AM 0, .inl (cY 0, 72, .inl tb)), (AM 2, .inl (cY 0, 22, .inl (upd z_13 20 0))), (AM 3, .inl (cY 0, 22, .inl rd)), (AM 4, .inl (cY 0, 110, .inl kp)), (AM 5, .inl (cY 0, 8414, .inl td)), (AM 6, .inl (cY 0, 2, .inl wn)), (AM 13, .inl (cY 0, 4, .inl rw)), (AM 14, .inl (cY 0, 4, .inl br))] := hD1
        have hS := hS1
        clear hP1 hD1 hS1
        have e_54 : (X8_hitBoth_j91 tb sA) = (upd z_13 20 0) := by rw [X8_hitBoth_j91]; simp only [← ez_13, eq_false c_14, ↓reduceIte]
        exact jn_15 _ _ _ (by (try simp only [e_54]); exact hP) (by (try simp only [e_54]); exact hD) hS (by (try simp only [e_54]); exact (lv_sub hl [0, 1, 2, 3, 4, 5, 6, 7, 8, 9, 10] rfl))
  · intro jn_12
    refine lv_if_eq (tgt := 78) hx hb dX8_hitBoth_67 (by decide) (fun c_11 => ?_) (fun c_11 => ?_)
    · have e_55 : (X8_hitBoth_j78 tb sA) = sA := by rw [X8_hitBoth_j78]; simp only [eq_true c_11, ↓reduceIte]
      exact jn_12 _ _ _ (by (try simp only [e_55]); exact hP) (by (try simp only [e_55]); exact hD) hS (by (try simp only [e_55]); exact (lv_sub hl [0, 1, 2, 3, 4, 5, 6, 7, 8, 9, 10] rfl))
    · refine lv_aload_n hx hb dX8_hitBoth_70 rfl (lv_at hl 8 rfl) ?_
      refine va_get (D := (dC, dI)) (ci := 8) (v := .ref (AM 2)) (C := RX8) (T := TX8) (N := 17) hx hb hts inw_X8_hitBoth_X8 hown hK hP 0 rfl rfl 2 (by decide) (hts (.fieldLink RX8 13 "DuelFramesModel" "s" "[I") (List.mem_of_getElem? (i := 1) rfl)) (fun _ h9 => h9) rfl dX8_hitBoth_71 ?_
      refine lv_bipush (v := 9) hx hb dX8_hitBoth_74 (by decide) ?_
      refine lv_iconst (v := 0) hx hb dX8_hitBoth_76 (by decide) ?_
      refine va_iast hx hb hK hP hD hS 2 0 rfl rfl (vin rfl) dX8_hitBoth_77 (fun H locs hP1 hD1 hS1 => ?_)
      clear hP hD hS
      have hP : va_P (dC, dI) vwCl [(m0, .inr (8, mdL AM g)), (AM 0, .inl (cY 0, 72, .inl tb)), (AM 2, .inl (cY 0, 22, .inl (upd sA 9 0))), (AM 3, .inl (cY 0, 22, .inl rd)), (AM 4, .inl (cY 0, 110, .inl kp)), (AM 5, .inl (cY 0, 8414, .inl td)), (AM 6, .inl (cY 0, 2, .inl wn)), (AM 13, .inl (cY 0, 4, .inl rw)), (AM 14, .inl (cY 0, 4, .inl br))] H := hP1
      have hD : va_D A [(m0, .inr (8, mdL AM g)), (AM 0, .inl (cY 0, 72, .inl tb)), (AM 2, .inl (cY 0, 22, .inl (upd sA 9 0))), (AM 3, .inl (cY 0, 22, .inl rd)), (AM 4, .inl (cY 0, 110, .inl kp)), (AM 5, .inl (cY 0, 8414, .inl td)), (AM 6, .inl (cY 0, 2, .inl wn)), (AM 13, .inl (cY 0, 4, .inl rw)), (AM 14, .inl (cY 0, 4, .inl br))] := hD1
      have hS := hS1
      clear hP1 hD1 hS1
      have e_56 : (X8_hitBoth_j78 tb sA) = (upd sA 9 0) := by rw [X8_hitBoth_j78]; simp only [eq_false c_11, ↓reduceIte]
      exact jn_12 _ _ _ (by (try simp only [e_56]); exact hP) (by (try simp only [e_56]); exact hD) hS (by (try simp only [e_56]); exact (lv_sub hl [0, 1, 2, 3, 4, 5, 6, 7, 8, 9, 10] rfl))
theorem okS_hb {tb sA : Nat → Int32} {one two : Int32} (h : okS sA) : okS (X8_hitBoth_w2 tb sA one two) := by
  have h78 : okS (X8_hitBoth_j78 tb sA) := by
    unfold X8_hitBoth_j78
    split
    · exact h
    · exact okS_congr h rfl rfl rfl rfl rfl rfl
  have h91 : okS (X8_hitBoth_j91 tb sA) := by
    unfold X8_hitBoth_j91
    split
    · exact h78
    · exact okS_congr h78 rfl rfl rfl rfl rfl rfl
  have hgb : okS (X8_goBack11_w2 (X8_goBack0_w2 (X8_hitBoth_j91 tb sA) 20) 20) := by
    refine okS_congr h91 ?_ ?_ ?_ ?_ ?_ ?_ <;> rw [gb11_at (by decide), gb0_at (by decide)]
  unfold X8_hitBoth_w2
  split
  · split
    · exact h91
    · exact okS_t11 h91
  · split
    · exact okS_t0 h91
    · split
      · split
        · exact hgb
        · exact okS_t11 (okS_t0 h91)
      · exact okS_t11 (okS_t0 h91)
