theorem inw_X8_lay_X8 : ∀ w ∈ u_ws RX8 TX8 17, w ∈ wsX8_lay := fun _ h => List.mem_cons_of_mem _ (List.mem_append_right _ h)
def X8_lay_w2 (sA : Nat → Int32) (meter : Int32) (other : Int32) (otherMeter : Int32) (place : Int32) : Nat → Int32 := (upd (upd (upd (upd (upd (upd (upd (upd (upd (upd (upd (upd (upd (upd (upd (upd (upd (upd (upd (upd (upd (upd (upd (upd (upd (upd (upd (upd (upd (upd (upd (upd (upd (upd sA 0 0) 1 0) 2 0) 3 0) 4 0) 5 0) 6 0) 7 0) 8 0) 9 0) 10 0) 0 place) 1 1000) 2 meter) 4 (-1)) 7 (-1)) 9 (-1)) 11 0) 12 0) 13 0) 14 0) 15 0) 16 0) 17 0) 18 0) 19 0) 20 0) 21 0) 11 other) 12 1000) 13 otherMeter) 15 (-1)) 18 (-1)) 20 (-1))
set_option maxHeartbeats 4000000 in
set_option maxRecDepth 100000 in
theorem c_X8_lay (l : Launch) (dC : Nat → ClassId) (dI : Nat → Nat → Nat) (cY : Nat → ClassId) (m0 : Nat) (AM : Nat → Nat) (g : Nat → Int32) (tb : Nat → Int32) (sA : Nat → Int32) (rd : Nat → Int32) (kp : Nat → Int32) (td : Nat → Int32) (wn : Nat → Int32) (rw : Nat → Int32) (br : Nat → Int32) (place : Int32) (other : Int32) (meter : Int32) (otherMeter : Int32)  (sz : Nat) : Met l yX8_lay wsX8_lay ({ frames := 0, cells := 0, slots := 0, locals := 0 } : Room) (va_Pc [.ref m0, .int place, .int other, .int meter, .int otherMeter] (wPre (dC, dI) (tyL cY) [(m0, .inr (8, mdL AM g)), (AM 0, .inl (cY 0, 72, .inl tb)), (AM 2, .inl (cY 0, 22, .inl sA)), (AM 3, .inl (cY 0, 22, .inl rd)), (AM 4, .inl (cY 0, 110, .inl kp)), (AM 5, .inl (cY 0, 8414, .inl td)), (AM 6, .inl (cY 0, 2, .inl wn)), (AM 13, .inl (cY 0, 4, .inl rw)), (AM 14, .inl (cY 0, 4, .inl br))] sz)) (va_Qv (fun _ : Unit => True) (wPost (dC, dI) [(m0, .inr (8, mdL AM g)), (AM 0, .inl (cY 0, 72, .inl tb)), (AM 2, .inl (cY 0, 22, .inl (X8_lay_w2 sA meter other otherMeter place))), (AM 3, .inl (cY 0, 22, .inl rd)), (AM 4, .inl (cY 0, 110, .inl kp)), (AM 5, .inl (cY 0, 8414, .inl td)), (AM 6, .inl (cY 0, 2, .inl wn)), (AM 13, .inl (cY 0, 4, .inl rw)), (AM 14, .inl (cY 0, 4, .inl br))] (va_A [(m0, .inr (8, mdL AM g)), (AM 0, .inl (cY 0, 72, .inl tb)), (AM 2, .inl (cY 0, 22, .inl sA)), (AM 3, .inl (cY 0, 22, .inl rd)), (AM 4, .inl (cY 0, 110, .inl kp)), (AM 5, .inl (cY 0, 8414, .inl td)), (AM 6, .inl (cY 0, 2, .inl wn)), (AM 13, .inl (cY 0, 4, .inl rw)), (AM 14, .inl (cY 0, 4, .inl br))] sz)) (va_A [(m0, .inr (8, mdL AM g)), (AM 0, .inl (cY 0, 72, .inl tb)), (AM 2, .inl (cY 0, 22, .inl sA)), (AM 3, .inl (cY 0, 22, .inl rd)), (AM 4, .inl (cY 0, 110, .inl kp)), (AM 5, .inl (cY 0, 8414, .inl td)), (AM 6, .inl (cY 0, 2, .inl wn)), (AM 13, .inl (cY 0, 4, .inl rw)), (AM 14, .inl (cY 0, 4, .inl br))] sz)) 0 0 (va_A [(m0, .inr (8, mdL AM g)), (AM 0, .inl (cY 0, 72, .inl tb)), (AM 2, .inl (cY 0, 22, .inl sA)), (AM 3, .inl (cY 0, 22, .inl rd)), (AM 4, .inl (cY 0, 110, .inl kp)), (AM 5, .inl (cY 0, 8414, .inl td)), (AM 6, .inl (cY 0, 2, .inl wn)), (AM 13, .inl (cY 0, 4, .inl rw)), (AM 14, .inl (cY 0, 4, .inl br))] sz) := by
  refine Met.ofW (cc := cX8_lay) (maxL := 7) (ret := none) (by decide) rfl ?_
  intro p e s m args below meth c s₁ B hml hv
  obtain ⟨rfl, hsz, hP, hK, hN, hD0⟩ := hv
  have hx := B.exec
  have hb := B.bytes
  have hr := B.returns
  have hts := atoms_spec (ws := wsX8_lay) B.pre
  have hown : s.vm.findClass RX8 = some m.cls := findClass_of_methodNamed B.named
  have hlocks := B.notSynchronized
  subst hsz
  have hD := hD0.self (sz := s.heap.size)
  generalize hAe : va_A [(m0, .inr (8, mdL AM g)), (AM 0, .inl (cY 0, 72, .inl tb)), (AM 2, .inl (cY 0, 22, .inl sA)), (AM 3, .inl (cY 0, 22, .inl rd)), (AM 4, .inl (cY 0, 110, .inl kp)), (AM 5, .inl (cY 0, 8414, .inl td)), (AM 6, .inl (cY 0, 2, .inl wn)), (AM 13, .inl (cY 0, 4, .inl rw)), (AM 14, .inl (cY 0, 4, .inl br))] s.heap.size = A at hD ⊢
  have hA : ∀ q : Nat, s.heap.size ≤ q → A q := fun q h => by rw [← hAe]; exact Or.inr h
  have hS : va_S A s.heap s.heap [] := va_S.rf
  have hP : va_P (dC, dI) vwCl [(m0, .inr (8, mdL AM g)), (AM 0, .inl (cY 0, 72, .inl tb)), (AM 2, .inl (cY 0, 22, .inl sA)), (AM 3, .inl (cY 0, 22, .inl rd)), (AM 4, .inl (cY 0, 110, .inl kp)), (AM 5, .inl (cY 0, 8414, .inl td)), (AM 6, .inl (cY 0, 2, .inl wn)), (AM 13, .inl (cY 0, 4, .inl rw)), (AM 14, .inl (cY 0, 4, .inl br))] s.heap := hP
  have hl := lv_entry ([.ref m0, .int place, .int other, .int meter, .int otherMeter]) (n := 7) (Nat.le_of_ble_eq_true rfl)
  rw [lg_entry_eq]
  generalize (lg_sl ([.ref m0, .int place, .int other, .int meter, .int otherMeter]) ++ List.replicate (7 - (lg_sl ([.ref m0, .int place, .int other, .int meter, .int otherMeter])).length) Slot.unset).toArray = ls at hl ⊢
  have hl : lv_has ls 7 [(0, .ref m0), (1, .int place), (2, .int other), (3, .int meter), (4, .int otherMeter)] := hl
  refine lv_iconst (v := 0) hx hb dX8_lay_0 (by decide) ?_
  refine lv_istore (lv' := [(5, .int 0), (0, .ref m0), (1, .int place), (2, .int other), (3, .int meter), (4, .int otherMeter)]) hx hb dX8_lay_1 hl (by decide) rfl (fun ls hl => ?_)
  refine lv_iload hx hb dX8_lay_3 (lv_at hl 0 rfl) ?_
  refine lv_bipush (v := 11) hx hb dX8_lay_5 (by decide) ?_
  refine lv_icmp_gt (tgt := 126) hx hb dX8_lay_7 (by decide) (fun c_1 => ?_) (fun c_1 => ?_)
  · exact absurd c_1 (by decide)
  refine lv_iconst (v := 0) hx hb dX8_lay_10 (by decide) ?_
  refine lv_istore (lv' := [(6, .int 0), (5, .int 0), (0, .ref m0), (1, .int place), (2, .int other), (3, .int meter), (4, .int otherMeter)]) hx hb dX8_lay_11 hl (by decide) rfl (fun ls hl => ?_)
  refine lv_iload hx hb dX8_lay_13 (lv_at hl 0 rfl) ?_
  refine lv_bipush (v := 11) hx hb dX8_lay_15 (by decide) ?_
  refine lv_icmp_ge (tgt := 37) hx hb dX8_lay_17 (by decide) (fun c_2 => ?_) (fun c_2 => ?_)
  · exact absurd c_2 (by decide)
  refine lv_aload_n hx hb dX8_lay_20 rfl (lv_at hl 2 rfl) ?_
  refine va_get (D := (dC, dI)) (ci := 8) (v := .ref (AM 2)) (C := RX8) (T := TX8) (N := 17) hx hb hts inw_X8_lay_X8 hown hK hP 0 rfl rfl 2 (by decide) (hts (.fieldLink RX8 13 "DuelFramesModel" "s" "[I") (List.mem_of_getElem? (i := 1) rfl)) (fun _ h9 => h9) rfl dX8_lay_21 ?_
  refine lv_iload hx hb dX8_lay_24 (lv_at hl 1 rfl) ?_
  refine lv_iload hx hb dX8_lay_26 (lv_at hl 0 rfl) ?_
  refine lv_iadd hx hb dX8_lay_28 ?_
  refine lv_topi (fun x_3 ex_3 => ?_)
  obtain rfl : x_3 = 0 := ex_3.trans (by decide)
  refine lv_iconst (v := 0) hx hb dX8_lay_29 (by decide) ?_
  refine va_iast hx hb hK hP hD hS 2 0 rfl rfl (vin rfl) dX8_lay_30 (fun H locs hP1 hD1 hS1 => ?_)
  clear hP hD hS
  have hP : va_P (dC, dI) vwCl [(m0, .inr (8, mdL AM g)), (AM 0, .inl (cY 0, 72, .inl tb)), (AM 2, .inl (cY 0, 22, .inl (upd sA 0 0))), (AM 3, .inl (cY 0, 22, .inl rd)), (AM 4, .inl (cY 0, 110, .inl kp)), (AM 5, .inl (cY 0, 8414, .inl td)), (AM 6, .inl (cY 0, 2, .inl wn)), (AM 13, .inl (cY 0, 4, .inl rw)), (AM 14, .inl (cY 0, 4, .inl br))] H := hP1
  have hD : va_D A [(m0, .inr (8, mdL AM g)), (AM 0, .inl (cY 0, 72, .inl tb)), (AM 2, .inl (cY 0, 22, .inl (upd sA 0 0))), (AM 3, .inl (cY 0, 22, .inl rd)), (AM 4, .inl (cY 0, 110, .inl kp)), (AM 5, .inl (cY 0, 8414, .inl td)), (AM 6, .inl (cY 0, 2, .inl wn)), (AM 13, .inl (cY 0, 4, .inl rw)), (AM 14, .inl (cY 0, 4, .inl br))] := hD1
  have hS := hS1
  clear hP1 hD1 hS1
  refine lv_iinc (v := 1) (lv' := [(6, .int 1), (5, .int 0), (0, .ref m0), (1, .int place), (2, .int other), (3, .int meter), (4, .int otherMeter)]) hx hb dX8_lay_31 hl (k := 0) rfl (by first | rfl | decide) (by decide) rfl (fun ls hl => ?_)
  refine lv_goto (tgt := 13) hx hb dX8_lay_34 (by decide) ?_
  refine lv_iload hx hb dX8_lay_13 (lv_at hl 0 rfl) ?_
  refine lv_bipush (v := 11) hx hb dX8_lay_15 (by decide) ?_
  refine lv_icmp_ge (tgt := 37) hx hb dX8_lay_17 (by decide) (fun c_4 => ?_) (fun c_4 => ?_)
  · exact absurd c_4 (by decide)
  refine lv_aload_n hx hb dX8_lay_20 rfl (lv_at hl 2 rfl) ?_
  refine va_get (D := (dC, dI)) (ci := 8) (v := .ref (AM 2)) (C := RX8) (T := TX8) (N := 17) hx hb hts inw_X8_lay_X8 hown hK hP 0 rfl rfl 2 (by decide) (hts (.fieldLink RX8 13 "DuelFramesModel" "s" "[I") (List.mem_of_getElem? (i := 1) rfl)) (fun _ h9 => h9) rfl dX8_lay_21 ?_
  refine lv_iload hx hb dX8_lay_24 (lv_at hl 1 rfl) ?_
  refine lv_iload hx hb dX8_lay_26 (lv_at hl 0 rfl) ?_
  refine lv_iadd hx hb dX8_lay_28 ?_
  refine lv_topi (fun x_5 ex_5 => ?_)
  obtain rfl : x_5 = 1 := ex_5.trans (by decide)
  refine lv_iconst (v := 0) hx hb dX8_lay_29 (by decide) ?_
  refine va_iast hx hb hK hP hD hS 2 0 rfl rfl (vin rfl) dX8_lay_30 (fun H locs hP1 hD1 hS1 => ?_)
  clear hP hD hS
  have hP : va_P (dC, dI) vwCl [(m0, .inr (8, mdL AM g)), (AM 0, .inl (cY 0, 72, .inl tb)), (AM 2, .inl (cY 0, 22, .inl (upd (upd sA 0 0) 1 0))), (AM 3, .inl (cY 0, 22, .inl rd)), (AM 4, .inl (cY 0, 110, .inl kp)), (AM 5, .inl (cY 0, 8414, .inl td)), (AM 6, .inl (cY 0, 2, .inl wn)), (AM 13, .inl (cY 0, 4, .inl rw)), (AM 14, .inl (cY 0, 4, .inl br))] H := hP1
  have hD : va_D A [(m0, .inr (8, mdL AM g)), (AM 0, .inl (cY 0, 72, .inl tb)), (AM 2, .inl (cY 0, 22, .inl (upd (upd sA 0 0) 1 0))), (AM 3, .inl (cY 0, 22, .inl rd)), (AM 4, .inl (cY 0, 110, .inl kp)), (AM 5, .inl (cY 0, 8414, .inl td)), (AM 6, .inl (cY 0, 2, .inl wn)), (AM 13, .inl (cY 0, 4, .inl rw)), (AM 14, .inl (cY 0, 4, .inl br))] := hD1
  have hS := hS1
  clear hP1 hD1 hS1
  refine lv_iinc (v := 2) (lv' := [(6, .int 2), (5, .int 0), (0, .ref m0), (1, .int place), (2, .int other), (3, .int meter), (4, .int otherMeter)]) hx hb dX8_lay_31 hl (k := 0) rfl (by first | rfl | decide) (by decide) rfl (fun ls hl => ?_)
  refine lv_goto (tgt := 13) hx hb dX8_lay_34 (by decide) ?_
  refine lv_iload hx hb dX8_lay_13 (lv_at hl 0 rfl) ?_
  refine lv_bipush (v := 11) hx hb dX8_lay_15 (by decide) ?_
  refine lv_icmp_ge (tgt := 37) hx hb dX8_lay_17 (by decide) (fun c_6 => ?_) (fun c_6 => ?_)
  · exact absurd c_6 (by decide)
  refine lv_aload_n hx hb dX8_lay_20 rfl (lv_at hl 2 rfl) ?_
  refine va_get (D := (dC, dI)) (ci := 8) (v := .ref (AM 2)) (C := RX8) (T := TX8) (N := 17) hx hb hts inw_X8_lay_X8 hown hK hP 0 rfl rfl 2 (by decide) (hts (.fieldLink RX8 13 "DuelFramesModel" "s" "[I") (List.mem_of_getElem? (i := 1) rfl)) (fun _ h9 => h9) rfl dX8_lay_21 ?_
  refine lv_iload hx hb dX8_lay_24 (lv_at hl 1 rfl) ?_
  refine lv_iload hx hb dX8_lay_26 (lv_at hl 0 rfl) ?_
  refine lv_iadd hx hb dX8_lay_28 ?_
  refine lv_topi (fun x_7 ex_7 => ?_)
  obtain rfl : x_7 = 2 := ex_7.trans (by decide)
  refine lv_iconst (v := 0) hx hb dX8_lay_29 (by decide) ?_
  refine va_iast hx hb hK hP hD hS 2 0 rfl rfl (vin rfl) dX8_lay_30 (fun H locs hP1 hD1 hS1 => ?_)
  clear hP hD hS
  have hP : va_P (dC, dI) vwCl [(m0, .inr (8, mdL AM g)), (AM 0, .inl (cY 0, 72, .inl tb)), (AM 2, .inl (cY 0, 22, .inl (upd (upd (upd sA 0 0) 1 0) 2 0))), (AM 3, .inl (cY 0, 22, .inl rd)), (AM 4, .inl (cY 0, 110, .inl kp)), (AM 5, .inl (cY 0, 8414, .inl td)), (AM 6, .inl (cY 0, 2, .inl wn)), (AM 13, .inl (cY 0, 4, .inl rw)), (AM 14, .inl (cY 0, 4, .inl br))] H := hP1
  have hD : va_D A [(m0, .inr (8, mdL AM g)), (AM 0, .inl (cY 0, 72, .inl tb)), (AM 2, .inl (cY 0, 22, .inl (upd (upd (upd sA 0 0) 1 0) 2 0))), (AM 3, .inl (cY 0, 22, .inl rd)), (AM 4, .inl (cY 0, 110, .inl kp)), (AM 5, .inl (cY 0, 8414, .inl td)), (AM 6, .inl (cY 0, 2, .inl wn)), (AM 13, .inl (cY 0, 4, .inl rw)), (AM 14, .inl (cY 0, 4, .inl br))] := hD1
  have hS := hS1
  clear hP1 hD1 hS1
  refine lv_iinc (v := 3) (lv' := [(6, .int 3), (5, .int 0), (0, .ref m0), (1, .int place), (2, .int other), (3, .int meter), (4, .int otherMeter)]) hx hb dX8_lay_31 hl (k := 0) rfl (by first | rfl | decide) (by decide) rfl (fun ls hl => ?_)
  refine lv_goto (tgt := 13) hx hb dX8_lay_34 (by decide) ?_
  refine lv_iload hx hb dX8_lay_13 (lv_at hl 0 rfl) ?_
  refine lv_bipush (v := 11) hx hb dX8_lay_15 (by decide) ?_
  refine lv_icmp_ge (tgt := 37) hx hb dX8_lay_17 (by decide) (fun c_8 => ?_) (fun c_8 => ?_)
  · exact absurd c_8 (by decide)
  refine lv_aload_n hx hb dX8_lay_20 rfl (lv_at hl 2 rfl) ?_
  refine va_get (D := (dC, dI)) (ci := 8) (v := .ref (AM 2)) (C := RX8) (T := TX8) (N := 17) hx hb hts inw_X8_lay_X8 hown hK hP 0 rfl rfl 2 (by decide) (hts (.fieldLink RX8 13 "DuelFramesModel" "s" "[I") (List.mem_of_getElem? (i := 1) rfl)) (fun _ h9 => h9) rfl dX8_lay_21 ?_
  refine lv_iload hx hb dX8_lay_24 (lv_at hl 1 rfl) ?_
  refine lv_iload hx hb dX8_lay_26 (lv_at hl 0 rfl) ?_
  refine lv_iadd hx hb dX8_lay_28 ?_
  refine lv_topi (fun x_9 ex_9 => ?_)
  obtain rfl : x_9 = 3 := ex_9.trans (by decide)
  refine lv_iconst (v := 0) hx hb dX8_lay_29 (by decide) ?_
  refine va_iast hx hb hK hP hD hS 2 0 rfl rfl (vin rfl) dX8_lay_30 (fun H locs hP1 hD1 hS1 => ?_)
  clear hP hD hS
  have hP : va_P (dC, dI) vwCl [(m0, .inr (8, mdL AM g)), (AM 0, .inl (cY 0, 72, .inl tb)), (AM 2, .inl (cY 0, 22, .inl (upd (upd (upd (upd sA 0 0) 1 0) 2 0) 3 0))), (AM 3, .inl (cY 0, 22, .inl rd)), (AM 4, .inl (cY 0, 110, .inl kp)), (AM 5, .inl (cY 0, 8414, .inl td)), (AM 6, .inl (cY 0, 2, .inl wn)), (AM 13, .inl (cY 0, 4, .inl rw)), (AM 14, .inl (cY 0, 4, .inl br))] H := hP1
  have hD : va_D A [(m0, .inr (8, mdL AM g)), (AM 0, .inl (cY 0, 72, .inl tb)), (AM 2, .inl (cY 0, 22, .inl (upd (upd (upd (upd sA 0 0) 1 0) 2 0) 3 0))), (AM 3, .inl (cY 0, 22, .inl rd)), (AM 4, .inl (cY 0, 110, .inl kp)), (AM 5, .inl (cY 0, 8414, .inl td)), (AM 6, .inl (cY 0, 2, .inl wn)), (AM 13, .inl (cY 0, 4, .inl rw)), (AM 14, .inl (cY 0, 4, .inl br))] := hD1
  have hS := hS1
  clear hP1 hD1 hS1
  refine lv_iinc (v := 4) (lv' := [(6, .int 4), (5, .int 0), (0, .ref m0), (1, .int place), (2, .int other), (3, .int meter), (4, .int otherMeter)]) hx hb dX8_lay_31 hl (k := 0) rfl (by first | rfl | decide) (by decide) rfl (fun ls hl => ?_)
  refine lv_goto (tgt := 13) hx hb dX8_lay_34 (by decide) ?_
  refine lv_iload hx hb dX8_lay_13 (lv_at hl 0 rfl) ?_
  refine lv_bipush (v := 11) hx hb dX8_lay_15 (by decide) ?_
  refine lv_icmp_ge (tgt := 37) hx hb dX8_lay_17 (by decide) (fun c_10 => ?_) (fun c_10 => ?_)
  · exact absurd c_10 (by decide)
  refine lv_aload_n hx hb dX8_lay_20 rfl (lv_at hl 2 rfl) ?_
  refine va_get (D := (dC, dI)) (ci := 8) (v := .ref (AM 2)) (C := RX8) (T := TX8) (N := 17) hx hb hts inw_X8_lay_X8 hown hK hP 0 rfl rfl 2 (by decide) (hts (.fieldLink RX8 13 "DuelFramesModel" "s" "[I") (List.mem_of_getElem? (i := 1) rfl)) (fun _ h9 => h9) rfl dX8_lay_21 ?_
  refine lv_iload hx hb dX8_lay_24 (lv_at hl 1 rfl) ?_
  refine lv_iload hx hb dX8_lay_26 (lv_at hl 0 rfl) ?_
  refine lv_iadd hx hb dX8_lay_28 ?_
  refine lv_topi (fun x_11 ex_11 => ?_)
  obtain rfl : x_11 = 4 := ex_11.trans (by decide)
  refine lv_iconst (v := 0) hx hb dX8_lay_29 (by decide) ?_
  refine va_iast hx hb hK hP hD hS 2 0 rfl rfl (vin rfl) dX8_lay_30 (fun H locs hP1 hD1 hS1 => ?_)
  clear hP hD hS
  have hP : va_P (dC, dI) vwCl [(m0, .inr (8, mdL AM g)), (AM 0, .inl (cY 0, 72, .inl tb)), (AM 2, .inl (cY 0, 22, .inl (upd (upd (upd (upd (upd sA 0 0) 1 0) 2 0) 3 0) 4 0))), (AM 3, .inl (cY 0, 22, .inl rd)), (AM 4, .inl (cY 0, 110, .inl kp)), (AM 5, .inl (cY 0, 8414, .inl td)), (AM 6, .inl (cY 0, 2, .inl wn)), (AM 13, .inl (cY 0, 4, .inl rw)), (AM 14, .inl (cY 0, 4, .inl br))] H := hP1
  have hD : va_D A [(m0, .inr (8, mdL AM g)), (AM 0, .inl (cY 0, 72, .inl tb)), (AM 2, .inl (cY 0, 22, .inl (upd (upd (upd (upd (upd sA 0 0) 1 0) 2 0) 3 0) 4 0))), (AM 3, .inl (cY 0, 22, .inl rd)), (AM 4, .inl (cY 0, 110, .inl kp)), (AM 5, .inl (cY 0, 8414, .inl td)), (AM 6, .inl (cY 0, 2, .inl wn)), (AM 13, .inl (cY 0, 4, .inl rw)), (AM 14, .inl (cY 0, 4, .inl br))] := hD1
  have hS := hS1
  clear hP1 hD1 hS1
  refine lv_iinc (v := 5) (lv' := [(6, .int 5), (5, .int 0), (0, .ref m0), (1, .int place), (2, .int other), (3, .int meter), (4, .int otherMeter)]) hx hb dX8_lay_31 hl (k := 0) rfl (by first | rfl | decide) (by decide) rfl (fun ls hl => ?_)
  refine lv_goto (tgt := 13) hx hb dX8_lay_34 (by decide) ?_
  refine lv_iload hx hb dX8_lay_13 (lv_at hl 0 rfl) ?_
  refine lv_bipush (v := 11) hx hb dX8_lay_15 (by decide) ?_
  refine lv_icmp_ge (tgt := 37) hx hb dX8_lay_17 (by decide) (fun c_12 => ?_) (fun c_12 => ?_)
  · exact absurd c_12 (by decide)
  refine lv_aload_n hx hb dX8_lay_20 rfl (lv_at hl 2 rfl) ?_
  refine va_get (D := (dC, dI)) (ci := 8) (v := .ref (AM 2)) (C := RX8) (T := TX8) (N := 17) hx hb hts inw_X8_lay_X8 hown hK hP 0 rfl rfl 2 (by decide) (hts (.fieldLink RX8 13 "DuelFramesModel" "s" "[I") (List.mem_of_getElem? (i := 1) rfl)) (fun _ h9 => h9) rfl dX8_lay_21 ?_
  refine lv_iload hx hb dX8_lay_24 (lv_at hl 1 rfl) ?_
  refine lv_iload hx hb dX8_lay_26 (lv_at hl 0 rfl) ?_
  refine lv_iadd hx hb dX8_lay_28 ?_
  refine lv_topi (fun x_13 ex_13 => ?_)
  obtain rfl : x_13 = 5 := ex_13.trans (by decide)
  refine lv_iconst (v := 0) hx hb dX8_lay_29 (by decide) ?_
  refine va_iast hx hb hK hP hD hS 2 0 rfl rfl (vin rfl) dX8_lay_30 (fun H locs hP1 hD1 hS1 => ?_)
  clear hP hD hS
  have hP : va_P (dC, dI) vwCl [(m0, .inr (8, mdL AM g)), (AM 0, .inl (cY 0, 72, .inl tb)), (AM 2, .inl (cY 0, 22, .inl (upd (upd (upd (upd (upd (upd sA 0 0) 1 0) 2 0) 3 0) 4 0) 5 0))), (AM 3, .inl (cY 0, 22, .inl rd)), (AM 4, .inl (cY 0, 110, .inl kp)), (AM 5, .inl (cY 0, 8414, .inl td)), (AM 6, .inl (cY 0, 2, .inl wn)), (AM 13, .inl (cY 0, 4, .inl rw)), (AM 14, .inl (cY 0, 4, .inl br))] H := hP1
  have hD : va_D A [(m0, .inr (8, mdL AM g)), (AM 0, .inl (cY 0, 72, .inl tb)), (AM 2, .inl (cY 0, 22, .inl (upd (upd (upd (upd (upd (upd sA 0 0) 1 0) 2 0) 3 0) 4 0) 5 0))), (AM 3, .inl (cY 0, 22, .inl rd)), (AM 4, .inl (cY 0, 110, .inl kp)), (AM 5, .inl (cY 0, 8414, .inl td)), (AM 6, .inl (cY 0, 2, .inl wn)), (AM 13, .inl (cY 0, 4, .inl rw)), (AM 14, .inl (cY 0, 4, .inl br))] := hD1
  have hS := hS1
  clear hP1 hD1 hS1
  refine lv_iinc (v := 6) (lv' := [(6, .int 6), (5, .int 0), (0, .ref m0), (1, .int place), (2, .int other), (3, .int meter), (4, .int otherMeter)]) hx hb dX8_lay_31 hl (k := 0) rfl (by first | rfl | decide) (by decide) rfl (fun ls hl => ?_)
  refine lv_goto (tgt := 13) hx hb dX8_lay_34 (by decide) ?_
  refine lv_iload hx hb dX8_lay_13 (lv_at hl 0 rfl) ?_
  refine lv_bipush (v := 11) hx hb dX8_lay_15 (by decide) ?_
  refine lv_icmp_ge (tgt := 37) hx hb dX8_lay_17 (by decide) (fun c_14 => ?_) (fun c_14 => ?_)
  · exact absurd c_14 (by decide)
  refine lv_aload_n hx hb dX8_lay_20 rfl (lv_at hl 2 rfl) ?_
  refine va_get (D := (dC, dI)) (ci := 8) (v := .ref (AM 2)) (C := RX8) (T := TX8) (N := 17) hx hb hts inw_X8_lay_X8 hown hK hP 0 rfl rfl 2 (by decide) (hts (.fieldLink RX8 13 "DuelFramesModel" "s" "[I") (List.mem_of_getElem? (i := 1) rfl)) (fun _ h9 => h9) rfl dX8_lay_21 ?_
  refine lv_iload hx hb dX8_lay_24 (lv_at hl 1 rfl) ?_
  refine lv_iload hx hb dX8_lay_26 (lv_at hl 0 rfl) ?_
  refine lv_iadd hx hb dX8_lay_28 ?_
  refine lv_topi (fun x_15 ex_15 => ?_)
  obtain rfl : x_15 = 6 := ex_15.trans (by decide)
  refine lv_iconst (v := 0) hx hb dX8_lay_29 (by decide) ?_
  refine va_iast hx hb hK hP hD hS 2 0 rfl rfl (vin rfl) dX8_lay_30 (fun H locs hP1 hD1 hS1 => ?_)
  clear hP hD hS
  have hP : va_P (dC, dI) vwCl [(m0, .inr (8, mdL AM g)), (AM 0, .inl (cY 0, 72, .inl tb)), (AM 2, .inl (cY 0, 22, .inl (upd (upd (upd (upd (upd (upd (upd sA 0 0) 1 0) 2 0) 3 0) 4 0) 5 0) 6 0))), (AM 3, .inl (cY 0, 22, .inl rd)), (AM 4, .inl (cY 0, 110, .inl kp)), (AM 5, .inl (cY 0, 8414, .inl td)), (AM 6, .inl (cY 0, 2, .inl wn)), (AM 13, .inl (cY 0, 4, .inl rw)), (AM 14, .inl (cY 0, 4, .inl br))] H := hP1
  have hD : va_D A [(m0, .inr (8, mdL AM g)), (AM 0, .inl (cY 0, 72, .inl tb)), (AM 2, .inl (cY 0, 22, .inl (upd (upd (upd (upd (upd (upd (upd sA 0 0) 1 0) 2 0) 3 0) 4 0) 5 0) 6 0))), (AM 3, .inl (cY 0, 22, .inl rd)), (AM 4, .inl (cY 0, 110, .inl kp)), (AM 5, .inl (cY 0, 8414, .inl td)), (AM 6, .inl (cY 0, 2, .inl wn)), (AM 13, .inl (cY 0, 4, .inl rw)), (AM 14, .inl (cY 0, 4, .inl br))] := hD1
  have hS := hS1
  clear hP1 hD1 hS1
  refine lv_iinc (v := 7) (lv' := [(6, .int 7), (5, .int 0), (0, .ref m0), (1, .int place), (2, .int other), (3, .int meter), (4, .int otherMeter)]) hx hb dX8_lay_31 hl (k := 0) rfl (by first | rfl | decide) (by decide) rfl (fun ls hl => ?_)
  refine lv_goto (tgt := 13) hx hb dX8_lay_34 (by decide) ?_
  refine lv_iload hx hb dX8_lay_13 (lv_at hl 0 rfl) ?_
  refine lv_bipush (v := 11) hx hb dX8_lay_15 (by decide) ?_
  refine lv_icmp_ge (tgt := 37) hx hb dX8_lay_17 (by decide) (fun c_16 => ?_) (fun c_16 => ?_)
  · exact absurd c_16 (by decide)
  refine lv_aload_n hx hb dX8_lay_20 rfl (lv_at hl 2 rfl) ?_
  refine va_get (D := (dC, dI)) (ci := 8) (v := .ref (AM 2)) (C := RX8) (T := TX8) (N := 17) hx hb hts inw_X8_lay_X8 hown hK hP 0 rfl rfl 2 (by decide) (hts (.fieldLink RX8 13 "DuelFramesModel" "s" "[I") (List.mem_of_getElem? (i := 1) rfl)) (fun _ h9 => h9) rfl dX8_lay_21 ?_
  refine lv_iload hx hb dX8_lay_24 (lv_at hl 1 rfl) ?_
  refine lv_iload hx hb dX8_lay_26 (lv_at hl 0 rfl) ?_
  refine lv_iadd hx hb dX8_lay_28 ?_
  refine lv_topi (fun x_17 ex_17 => ?_)
  obtain rfl : x_17 = 7 := ex_17.trans (by decide)
  refine lv_iconst (v := 0) hx hb dX8_lay_29 (by decide) ?_
  refine va_iast hx hb hK hP hD hS 2 0 rfl rfl (vin rfl) dX8_lay_30 (fun H locs hP1 hD1 hS1 => ?_)
  clear hP hD hS
  have hP : va_P (dC, dI) vwCl [(m0, .inr (8, mdL AM g)), (AM 0, .inl (cY 0, 72, .inl tb)), (AM 2, .inl (cY 0, 22, .inl (upd (upd (upd (upd (upd (upd (upd (upd sA 0 0) 1 0) 2 0) 3 0) 4 0) 5 0) 6 0) 7 0))), (AM 3, .inl (cY 0, 22, .inl rd)), (AM 4, .inl (cY 0, 110, .inl kp)), (AM 5, .inl (cY 0, 8414, .inl td)), (AM 6, .inl (cY 0, 2, .inl wn)), (AM 13, .inl (cY 0, 4, .inl rw)), (AM 14, .inl (cY 0, 4, .inl br))] H := hP1
  have hD : va_D A [(m0, .inr (8, mdL AM g)), (AM 0, .inl (cY 0, 72, .inl tb)), (AM 2, .inl (cY 0, 22, .inl (upd (upd (upd (upd (upd (upd (upd (upd sA 0 0) 1 0) 2 0) 3 0) 4 0) 5 0) 6 0) 7 0))), (AM 3, .inl (cY 0, 22, .inl rd)), (AM 4, .inl (cY 0, 110, .inl kp)), (AM 5, .inl (cY 0, 8414, .inl td)), (AM 6, .inl (cY 0, 2, .inl wn)), (AM 13, .inl (cY 0, 4, .inl rw)), (AM 14, .inl (cY 0, 4, .inl br))] := hD1
  have hS := hS1
  clear hP1 hD1 hS1
  refine lv_iinc (v := 8) (lv' := [(6, .int 8), (5, .int 0), (0, .ref m0), (1, .int place), (2, .int other), (3, .int meter), (4, .int otherMeter)]) hx hb dX8_lay_31 hl (k := 0) rfl (by first | rfl | decide) (by decide) rfl (fun ls hl => ?_)
  refine lv_goto (tgt := 13) hx hb dX8_lay_34 (by decide) ?_
  refine lv_iload hx hb dX8_lay_13 (lv_at hl 0 rfl) ?_
  refine lv_bipush (v := 11) hx hb dX8_lay_15 (by decide) ?_
  refine lv_icmp_ge (tgt := 37) hx hb dX8_lay_17 (by decide) (fun c_18 => ?_) (fun c_18 => ?_)
  · exact absurd c_18 (by decide)
  refine lv_aload_n hx hb dX8_lay_20 rfl (lv_at hl 2 rfl) ?_
  refine va_get (D := (dC, dI)) (ci := 8) (v := .ref (AM 2)) (C := RX8) (T := TX8) (N := 17) hx hb hts inw_X8_lay_X8 hown hK hP 0 rfl rfl 2 (by decide) (hts (.fieldLink RX8 13 "DuelFramesModel" "s" "[I") (List.mem_of_getElem? (i := 1) rfl)) (fun _ h9 => h9) rfl dX8_lay_21 ?_
  refine lv_iload hx hb dX8_lay_24 (lv_at hl 1 rfl) ?_
  refine lv_iload hx hb dX8_lay_26 (lv_at hl 0 rfl) ?_
  refine lv_iadd hx hb dX8_lay_28 ?_
  refine lv_topi (fun x_19 ex_19 => ?_)
  obtain rfl : x_19 = 8 := ex_19.trans (by decide)
  refine lv_iconst (v := 0) hx hb dX8_lay_29 (by decide) ?_
  refine va_iast hx hb hK hP hD hS 2 0 rfl rfl (vin rfl) dX8_lay_30 (fun H locs hP1 hD1 hS1 => ?_)
  clear hP hD hS
  have hP : va_P (dC, dI) vwCl [(m0, .inr (8, mdL AM g)), (AM 0, .inl (cY 0, 72, .inl tb)), (AM 2, .inl (cY 0, 22, .inl (upd (upd (upd (upd (upd (upd (upd (upd (upd sA 0 0) 1 0) 2 0) 3 0) 4 0) 5 0) 6 0) 7 0) 8 0))), (AM 3, .inl (cY 0, 22, .inl rd)), (AM 4, .inl (cY 0, 110, .inl kp)), (AM 5, .inl (cY 0, 8414, .inl td)), (AM 6, .inl (cY 0, 2, .inl wn)), (AM 13, .inl (cY 0, 4, .inl rw)), (AM 14, .inl (cY 0, 4, .inl br))] H := hP1
  have hD : va_D A [(m0, .inr (8, mdL AM g)), (AM 0, .inl (cY 0, 72, .inl tb)), (AM 2, .inl (cY 0, 22, .inl (upd (upd (upd (upd (upd (upd (upd (upd (upd sA 0 0) 1 0) 2 0) 3 0) 4 0) 5 0) 6 0) 7 0) 8 0))), (AM 3, .inl (cY 0, 22, .inl rd)), (AM 4, .inl (cY 0, 110, .inl kp)), (AM 5, .inl (cY 0, 8414, .inl td)), (AM 6, .inl (cY 0, 2, .inl wn)), (AM 13, .inl (cY 0, 4, .inl rw)), (AM 14, .inl (cY 0, 4, .inl br))] := hD1
  have hS := hS1
  clear hP1 hD1 hS1
  refine lv_iinc (v := 9) (lv' := [(6, .int 9), (5, .int 0), (0, .ref m0), (1, .int place), (2, .int other), (3, .int meter), (4, .int otherMeter)]) hx hb dX8_lay_31 hl (k := 0) rfl (by first | rfl | decide) (by decide) rfl (fun ls hl => ?_)
  refine lv_goto (tgt := 13) hx hb dX8_lay_34 (by decide) ?_
  refine lv_iload hx hb dX8_lay_13 (lv_at hl 0 rfl) ?_
  refine lv_bipush (v := 11) hx hb dX8_lay_15 (by decide) ?_
  refine lv_icmp_ge (tgt := 37) hx hb dX8_lay_17 (by decide) (fun c_20 => ?_) (fun c_20 => ?_)
  · exact absurd c_20 (by decide)
  refine lv_aload_n hx hb dX8_lay_20 rfl (lv_at hl 2 rfl) ?_
  refine va_get (D := (dC, dI)) (ci := 8) (v := .ref (AM 2)) (C := RX8) (T := TX8) (N := 17) hx hb hts inw_X8_lay_X8 hown hK hP 0 rfl rfl 2 (by decide) (hts (.fieldLink RX8 13 "DuelFramesModel" "s" "[I") (List.mem_of_getElem? (i := 1) rfl)) (fun _ h9 => h9) rfl dX8_lay_21 ?_
  refine lv_iload hx hb dX8_lay_24 (lv_at hl 1 rfl) ?_
  refine lv_iload hx hb dX8_lay_26 (lv_at hl 0 rfl) ?_
  refine lv_iadd hx hb dX8_lay_28 ?_
  refine lv_topi (fun x_21 ex_21 => ?_)
  obtain rfl : x_21 = 9 := ex_21.trans (by decide)
  refine lv_iconst (v := 0) hx hb dX8_lay_29 (by decide) ?_
  refine va_iast hx hb hK hP hD hS 2 0 rfl rfl (vin rfl) dX8_lay_30 (fun H locs hP1 hD1 hS1 => ?_)
  clear hP hD hS
  have hP : va_P (dC, dI) vwCl [(m0, .inr (8, mdL AM g)), (AM 0, .inl (cY 0, 72, .inl tb)), (AM 2, .inl (cY 0, 22, .inl (upd (upd (upd (upd (upd (upd (upd (upd (upd (upd sA 0 0) 1 0) 2 0) 3 0) 4 0) 5 0) 6 0) 7 0) 8 0) 9 0))), (AM 3, .inl (cY 0, 22, .inl rd)), (AM 4, .inl (cY 0, 110, .inl kp)), (AM 5, .inl (cY 0, 8414, .inl td)), (AM 6, .inl (cY 0, 2, .inl wn)), (AM 13, .inl (cY 0, 4, .inl rw)), (AM 14, .inl (cY 0, 4, .inl br))] H := hP1
  have hD : va_D A [(m0, .inr (8, mdL AM g)), (AM 0, .inl (cY 0, 72, .inl tb)), (AM 2, .inl (cY 0, 22, .inl (upd (upd (upd (upd (upd (upd (upd (upd (upd (upd sA 0 0) 1 0) 2 0) 3 0) 4 0) 5 0) 6 0) 7 0) 8 0) 9 0))), (AM 3, .inl (cY 0, 22, .inl rd)), (AM 4, .inl (cY 0, 110, .inl kp)), (AM 5, .inl (cY 0, 8414, .inl td)), (AM 6, .inl (cY 0, 2, .inl wn)), (AM 13, .inl (cY 0, 4, .inl rw)), (AM 14, .inl (cY 0, 4, .inl br))] := hD1
  have hS := hS1
  clear hP1 hD1 hS1
  refine lv_iinc (v := 10) (lv' := [(6, .int 10), (5, .int 0), (0, .ref m0), (1, .int place), (2, .int other), (3, .int meter), (4, .int otherMeter)]) hx hb dX8_lay_31 hl (k := 0) rfl (by first | rfl | decide) (by decide) rfl (fun ls hl => ?_)
  refine lv_goto (tgt := 13) hx hb dX8_lay_34 (by decide) ?_
  refine lv_iload hx hb dX8_lay_13 (lv_at hl 0 rfl) ?_
  refine lv_bipush (v := 11) hx hb dX8_lay_15 (by decide) ?_
  refine lv_icmp_ge (tgt := 37) hx hb dX8_lay_17 (by decide) (fun c_22 => ?_) (fun c_22 => ?_)
  · exact absurd c_22 (by decide)
  refine lv_aload_n hx hb dX8_lay_20 rfl (lv_at hl 2 rfl) ?_
  refine va_get (D := (dC, dI)) (ci := 8) (v := .ref (AM 2)) (C := RX8) (T := TX8) (N := 17) hx hb hts inw_X8_lay_X8 hown hK hP 0 rfl rfl 2 (by decide) (hts (.fieldLink RX8 13 "DuelFramesModel" "s" "[I") (List.mem_of_getElem? (i := 1) rfl)) (fun _ h9 => h9) rfl dX8_lay_21 ?_
  refine lv_iload hx hb dX8_lay_24 (lv_at hl 1 rfl) ?_
  refine lv_iload hx hb dX8_lay_26 (lv_at hl 0 rfl) ?_
  refine lv_iadd hx hb dX8_lay_28 ?_
  refine lv_topi (fun x_23 ex_23 => ?_)
  obtain rfl : x_23 = 10 := ex_23.trans (by decide)
  refine lv_iconst (v := 0) hx hb dX8_lay_29 (by decide) ?_
  refine va_iast hx hb hK hP hD hS 2 0 rfl rfl (vin rfl) dX8_lay_30 (fun H locs hP1 hD1 hS1 => ?_)
  clear hP hD hS
  have hP : va_P (dC, dI) vwCl [(m0, .inr (8, mdL AM g)), (AM 0, .inl (cY 0, 72, .inl tb)), (AM 2, .inl (cY 0, 22, .inl (upd (upd (upd (upd (upd (upd (upd (upd (upd (upd (upd sA 0 0) 1 0) 2 0) 3 0) 4 0) 5 0) 6 0) 7 0) 8 0) 9 0) 10 0))), (AM 3, .inl (cY 0, 22, .inl rd)), (AM 4, .inl (cY 0, 110, .inl kp)), (AM 5, .inl (cY 0, 8414, .inl td)), (AM 6, .inl (cY 0, 2, .inl wn)), (AM 13, .inl (cY 0, 4, .inl rw)), (AM 14, .inl (cY 0, 4, .inl br))] H := hP1
  have hD : va_D A [(m0, .inr (8, mdL AM g)), (AM 0, .inl (cY 0, 72, .inl tb)), (AM 2, .inl (cY 0, 22, .inl (upd (upd (upd (upd (upd (upd (upd (upd (upd (upd (upd sA 0 0) 1 0) 2 0) 3 0) 4 0) 5 0) 6 0) 7 0) 8 0) 9 0) 10 0))), (AM 3, .inl (cY 0, 22, .inl rd)), (AM 4, .inl (cY 0, 110, .inl kp)), (AM 5, .inl (cY 0, 8414, .inl td)), (AM 6, .inl (cY 0, 2, .inl wn)), (AM 13, .inl (cY 0, 4, .inl rw)), (AM 14, .inl (cY 0, 4, .inl br))] := hD1
  have hS := hS1
  clear hP1 hD1 hS1
  refine lv_iinc (v := 11) (lv' := [(6, .int 11), (5, .int 0), (0, .ref m0), (1, .int place), (2, .int other), (3, .int meter), (4, .int otherMeter)]) hx hb dX8_lay_31 hl (k := 0) rfl (by first | rfl | decide) (by decide) rfl (fun ls hl => ?_)
  refine lv_goto (tgt := 13) hx hb dX8_lay_34 (by decide) ?_
  refine lv_iload hx hb dX8_lay_13 (lv_at hl 0 rfl) ?_
  refine lv_bipush (v := 11) hx hb dX8_lay_15 (by decide) ?_
  refine lv_icmp_ge (tgt := 37) hx hb dX8_lay_17 (by decide) (fun c_24 => ?_) (fun c_24 => ?_)
  rotate_left
  · exact absurd (by decide) c_24
  refine lv_aload_n hx hb dX8_lay_37 rfl (lv_at hl 2 rfl) ?_
  refine va_get (D := (dC, dI)) (ci := 8) (v := .ref (AM 2)) (C := RX8) (T := TX8) (N := 17) hx hb hts inw_X8_lay_X8 hown hK hP 0 rfl rfl 2 (by decide) (hts (.fieldLink RX8 13 "DuelFramesModel" "s" "[I") (List.mem_of_getElem? (i := 1) rfl)) (fun _ h9 => h9) rfl dX8_lay_38 ?_
  refine lv_iload hx hb dX8_lay_41 (lv_at hl 1 rfl) ?_
  refine lv_iconst (v := 0) hx hb dX8_lay_43 (by decide) ?_
  refine lv_iadd hx hb dX8_lay_44 ?_
  refine lv_topi (fun x_25 ex_25 => ?_)
  obtain rfl : x_25 = 0 := ex_25.trans (by decide)
  refine lv_iload hx hb dX8_lay_45 (lv_at hl 1 rfl) ?_
  refine lv_if_ne (tgt := 54) hx hb dX8_lay_47 (by decide) (fun c_26 => ?_) (fun c_26 => ?_)
  · exact absurd (by decide) c_26
  refine lv_iload_n hx hb dX8_lay_50 rfl (lv_at hl 3 rfl) ?_
  refine lv_goto (tgt := 55) hx hb dX8_lay_51 (by decide) ?_
  refine va_iast hx hb hK hP hD hS 2 0 rfl rfl (vin rfl) dX8_lay_55 (fun H locs hP1 hD1 hS1 => ?_)
  clear hP hD hS
  have hP : va_P (dC, dI) vwCl [(m0, .inr (8, mdL AM g)), (AM 0, .inl (cY 0, 72, .inl tb)), (AM 2, .inl (cY 0, 22, .inl (upd (upd (upd (upd (upd (upd (upd (upd (upd (upd (upd (upd sA 0 0) 1 0) 2 0) 3 0) 4 0) 5 0) 6 0) 7 0) 8 0) 9 0) 10 0) 0 place))), (AM 3, .inl (cY 0, 22, .inl rd)), (AM 4, .inl (cY 0, 110, .inl kp)), (AM 5, .inl (cY 0, 8414, .inl td)), (AM 6, .inl (cY 0, 2, .inl wn)), (AM 13, .inl (cY 0, 4, .inl rw)), (AM 14, .inl (cY 0, 4, .inl br))] H := hP1
  have hD : va_D A [(m0, .inr (8, mdL AM g)), (AM 0, .inl (cY 0, 72, .inl tb)), (AM 2, .inl (cY 0, 22, .inl (upd (upd (upd (upd (upd (upd (upd (upd (upd (upd (upd (upd sA 0 0) 1 0) 2 0) 3 0) 4 0) 5 0) 6 0) 7 0) 8 0) 9 0) 10 0) 0 place))), (AM 3, .inl (cY 0, 22, .inl rd)), (AM 4, .inl (cY 0, 110, .inl kp)), (AM 5, .inl (cY 0, 8414, .inl td)), (AM 6, .inl (cY 0, 2, .inl wn)), (AM 13, .inl (cY 0, 4, .inl rw)), (AM 14, .inl (cY 0, 4, .inl br))] := hD1
  have hS := hS1
  clear hP1 hD1 hS1
  refine lv_aload_n hx hb dX8_lay_56 rfl (lv_at hl 2 rfl) ?_
  refine va_get (D := (dC, dI)) (ci := 8) (v := .ref (AM 2)) (C := RX8) (T := TX8) (N := 17) hx hb hts inw_X8_lay_X8 hown hK hP 0 rfl rfl 2 (by decide) (hts (.fieldLink RX8 13 "DuelFramesModel" "s" "[I") (List.mem_of_getElem? (i := 1) rfl)) (fun _ h9 => h9) rfl dX8_lay_57 ?_
  refine lv_iload hx hb dX8_lay_60 (lv_at hl 1 rfl) ?_
  refine lv_iconst (v := 1) hx hb dX8_lay_62 (by decide) ?_
  refine lv_iadd hx hb dX8_lay_63 ?_
  refine lv_topi (fun x_27 ex_27 => ?_)
  obtain rfl : x_27 = 1 := ex_27.trans (by decide)
  refine lv_sipush (v := 1000) hx hb dX8_lay_64 (by decide) ?_
  refine va_iast hx hb hK hP hD hS 2 0 rfl rfl (vin rfl) dX8_lay_67 (fun H locs hP1 hD1 hS1 => ?_)
  clear hP hD hS
  have hP : va_P (dC, dI) vwCl [(m0, .inr (8, mdL AM g)), (AM 0, .inl (cY 0, 72, .inl tb)), (AM 2, .inl (cY 0, 22, .inl (upd (upd (upd (upd (upd (upd (upd (upd (upd (upd (upd (upd (upd sA 0 0) 1 0) 2 0) 3 0) 4 0) 5 0) 6 0) 7 0) 8 0) 9 0) 10 0) 0 place) 1 1000))), (AM 3, .inl (cY 0, 22, .inl rd)), (AM 4, .inl (cY 0, 110, .inl kp)), (AM 5, .inl (cY 0, 8414, .inl td)), (AM 6, .inl (cY 0, 2, .inl wn)), (AM 13, .inl (cY 0, 4, .inl rw)), (AM 14, .inl (cY 0, 4, .inl br))] H := hP1
  have hD : va_D A [(m0, .inr (8, mdL AM g)), (AM 0, .inl (cY 0, 72, .inl tb)), (AM 2, .inl (cY 0, 22, .inl (upd (upd (upd (upd (upd (upd (upd (upd (upd (upd (upd (upd (upd sA 0 0) 1 0) 2 0) 3 0) 4 0) 5 0) 6 0) 7 0) 8 0) 9 0) 10 0) 0 place) 1 1000))), (AM 3, .inl (cY 0, 22, .inl rd)), (AM 4, .inl (cY 0, 110, .inl kp)), (AM 5, .inl (cY 0, 8414, .inl td)), (AM 6, .inl (cY 0, 2, .inl wn)), (AM 13, .inl (cY 0, 4, .inl rw)), (AM 14, .inl (cY 0, 4, .inl br))] := hD1
  have hS := hS1
  clear hP1 hD1 hS1
  refine lv_aload_n hx hb dX8_lay_68 rfl (lv_at hl 2 rfl) ?_
  refine va_get (D := (dC, dI)) (ci := 8) (v := .ref (AM 2)) (C := RX8) (T := TX8) (N := 17) hx hb hts inw_X8_lay_X8 hown hK hP 0 rfl rfl 2 (by decide) (hts (.fieldLink RX8 13 "DuelFramesModel" "s" "[I") (List.mem_of_getElem? (i := 1) rfl)) (fun _ h9 => h9) rfl dX8_lay_69 ?_
  refine lv_iload hx hb dX8_lay_72 (lv_at hl 1 rfl) ?_
  refine lv_iconst (v := 2) hx hb dX8_lay_74 (by decide) ?_
  refine lv_iadd hx hb dX8_lay_75 ?_
  refine lv_topi (fun x_28 ex_28 => ?_)
  obtain rfl : x_28 = 2 := ex_28.trans (by decide)
  refine lv_iload hx hb dX8_lay_76 (lv_at hl 1 rfl) ?_
  refine lv_if_ne (tgt := 85) hx hb dX8_lay_78 (by decide) (fun c_29 => ?_) (fun c_29 => ?_)
  · exact absurd (by decide) c_29
  refine lv_iload_n hx hb dX8_lay_81 rfl (lv_at hl 5 rfl) ?_
  refine lv_goto (tgt := 87) hx hb dX8_lay_82 (by decide) ?_
  refine va_iast hx hb hK hP hD hS 2 0 rfl rfl (vin rfl) dX8_lay_87 (fun H locs hP1 hD1 hS1 => ?_)
  clear hP hD hS
  have hP : va_P (dC, dI) vwCl [(m0, .inr (8, mdL AM g)), (AM 0, .inl (cY 0, 72, .inl tb)), (AM 2, .inl (cY 0, 22, .inl (upd (upd (upd (upd (upd (upd (upd (upd (upd (upd (upd (upd (upd (upd sA 0 0) 1 0) 2 0) 3 0) 4 0) 5 0) 6 0) 7 0) 8 0) 9 0) 10 0) 0 place) 1 1000) 2 meter))), (AM 3, .inl (cY 0, 22, .inl rd)), (AM 4, .inl (cY 0, 110, .inl kp)), (AM 5, .inl (cY 0, 8414, .inl td)), (AM 6, .inl (cY 0, 2, .inl wn)), (AM 13, .inl (cY 0, 4, .inl rw)), (AM 14, .inl (cY 0, 4, .inl br))] H := hP1
  have hD : va_D A [(m0, .inr (8, mdL AM g)), (AM 0, .inl (cY 0, 72, .inl tb)), (AM 2, .inl (cY 0, 22, .inl (upd (upd (upd (upd (upd (upd (upd (upd (upd (upd (upd (upd (upd (upd sA 0 0) 1 0) 2 0) 3 0) 4 0) 5 0) 6 0) 7 0) 8 0) 9 0) 10 0) 0 place) 1 1000) 2 meter))), (AM 3, .inl (cY 0, 22, .inl rd)), (AM 4, .inl (cY 0, 110, .inl kp)), (AM 5, .inl (cY 0, 8414, .inl td)), (AM 6, .inl (cY 0, 2, .inl wn)), (AM 13, .inl (cY 0, 4, .inl rw)), (AM 14, .inl (cY 0, 4, .inl br))] := hD1
  have hS := hS1
  clear hP1 hD1 hS1
  refine lv_aload_n hx hb dX8_lay_88 rfl (lv_at hl 2 rfl) ?_
  refine va_get (D := (dC, dI)) (ci := 8) (v := .ref (AM 2)) (C := RX8) (T := TX8) (N := 17) hx hb hts inw_X8_lay_X8 hown hK hP 0 rfl rfl 2 (by decide) (hts (.fieldLink RX8 13 "DuelFramesModel" "s" "[I") (List.mem_of_getElem? (i := 1) rfl)) (fun _ h9 => h9) rfl dX8_lay_89 ?_
  refine lv_iload hx hb dX8_lay_92 (lv_at hl 1 rfl) ?_
  refine lv_iconst (v := 4) hx hb dX8_lay_94 (by decide) ?_
  refine lv_iadd hx hb dX8_lay_95 ?_
  refine lv_topi (fun x_30 ex_30 => ?_)
  obtain rfl : x_30 = 4 := ex_30.trans (by decide)
  refine lv_iconst (v := (-1)) hx hb dX8_lay_96 (by decide) ?_
  refine va_iast hx hb hK hP hD hS 2 0 rfl rfl (vin rfl) dX8_lay_97 (fun H locs hP1 hD1 hS1 => ?_)
  clear hP hD hS
  have hP : va_P (dC, dI) vwCl [(m0, .inr (8, mdL AM g)), (AM 0, .inl (cY 0, 72, .inl tb)), (AM 2, .inl (cY 0, 22, .inl (upd (upd (upd (upd (upd (upd (upd (upd (upd (upd (upd (upd (upd (upd (upd sA 0 0) 1 0) 2 0) 3 0) 4 0) 5 0) 6 0) 7 0) 8 0) 9 0) 10 0) 0 place) 1 1000) 2 meter) 4 (-1)))), (AM 3, .inl (cY 0, 22, .inl rd)), (AM 4, .inl (cY 0, 110, .inl kp)), (AM 5, .inl (cY 0, 8414, .inl td)), (AM 6, .inl (cY 0, 2, .inl wn)), (AM 13, .inl (cY 0, 4, .inl rw)), (AM 14, .inl (cY 0, 4, .inl br))] H := hP1
  have hD : va_D A [(m0, .inr (8, mdL AM g)), (AM 0, .inl (cY 0, 72, .inl tb)), (AM 2, .inl (cY 0, 22, .inl (upd (upd (upd (upd (upd (upd (upd (upd (upd (upd (upd (upd (upd (upd (upd sA 0 0) 1 0) 2 0) 3 0) 4 0) 5 0) 6 0) 7 0) 8 0) 9 0) 10 0) 0 place) 1 1000) 2 meter) 4 (-1)))), (AM 3, .inl (cY 0, 22, .inl rd)), (AM 4, .inl (cY 0, 110, .inl kp)), (AM 5, .inl (cY 0, 8414, .inl td)), (AM 6, .inl (cY 0, 2, .inl wn)), (AM 13, .inl (cY 0, 4, .inl rw)), (AM 14, .inl (cY 0, 4, .inl br))] := hD1
  have hS := hS1
  clear hP1 hD1 hS1
  refine lv_aload_n hx hb dX8_lay_98 rfl (lv_at hl 2 rfl) ?_
  refine va_get (D := (dC, dI)) (ci := 8) (v := .ref (AM 2)) (C := RX8) (T := TX8) (N := 17) hx hb hts inw_X8_lay_X8 hown hK hP 0 rfl rfl 2 (by decide) (hts (.fieldLink RX8 13 "DuelFramesModel" "s" "[I") (List.mem_of_getElem? (i := 1) rfl)) (fun _ h9 => h9) rfl dX8_lay_99 ?_
  refine lv_iload hx hb dX8_lay_102 (lv_at hl 1 rfl) ?_
  refine lv_bipush (v := 7) hx hb dX8_lay_104 (by decide) ?_
  refine lv_iadd hx hb dX8_lay_106 ?_
  refine lv_topi (fun x_31 ex_31 => ?_)
  obtain rfl : x_31 = 7 := ex_31.trans (by decide)
  refine lv_iconst (v := (-1)) hx hb dX8_lay_107 (by decide) ?_
  refine va_iast hx hb hK hP hD hS 2 0 rfl rfl (vin rfl) dX8_lay_108 (fun H locs hP1 hD1 hS1 => ?_)
  clear hP hD hS
  have hP : va_P (dC, dI) vwCl [(m0, .inr (8, mdL AM g)), (AM 0, .inl (cY 0, 72, .inl tb)), (AM 2, .inl (cY 0, 22, .inl (upd (upd (upd (upd (upd (upd (upd (upd (upd (upd (upd (upd (upd (upd (upd (upd sA 0 0) 1 0) 2 0) 3 0) 4 0) 5 0) 6 0) 7 0) 8 0) 9 0) 10 0) 0 place) 1 1000) 2 meter) 4 (-1)) 7 (-1)))), (AM 3, .inl (cY 0, 22, .inl rd)), (AM 4, .inl (cY 0, 110, .inl kp)), (AM 5, .inl (cY 0, 8414, .inl td)), (AM 6, .inl (cY 0, 2, .inl wn)), (AM 13, .inl (cY 0, 4, .inl rw)), (AM 14, .inl (cY 0, 4, .inl br))] H := hP1
  have hD : va_D A [(m0, .inr (8, mdL AM g)), (AM 0, .inl (cY 0, 72, .inl tb)), (AM 2, .inl (cY 0, 22, .inl (upd (upd (upd (upd (upd (upd (upd (upd (upd (upd (upd (upd (upd (upd (upd (upd sA 0 0) 1 0) 2 0) 3 0) 4 0) 5 0) 6 0) 7 0) 8 0) 9 0) 10 0) 0 place) 1 1000) 2 meter) 4 (-1)) 7 (-1)))), (AM 3, .inl (cY 0, 22, .inl rd)), (AM 4, .inl (cY 0, 110, .inl kp)), (AM 5, .inl (cY 0, 8414, .inl td)), (AM 6, .inl (cY 0, 2, .inl wn)), (AM 13, .inl (cY 0, 4, .inl rw)), (AM 14, .inl (cY 0, 4, .inl br))] := hD1
  have hS := hS1
  clear hP1 hD1 hS1
  refine lv_aload_n hx hb dX8_lay_109 rfl (lv_at hl 2 rfl) ?_
  refine va_get (D := (dC, dI)) (ci := 8) (v := .ref (AM 2)) (C := RX8) (T := TX8) (N := 17) hx hb hts inw_X8_lay_X8 hown hK hP 0 rfl rfl 2 (by decide) (hts (.fieldLink RX8 13 "DuelFramesModel" "s" "[I") (List.mem_of_getElem? (i := 1) rfl)) (fun _ h9 => h9) rfl dX8_lay_110 ?_
  refine lv_iload hx hb dX8_lay_113 (lv_at hl 1 rfl) ?_
  refine lv_bipush (v := 9) hx hb dX8_lay_115 (by decide) ?_
  refine lv_iadd hx hb dX8_lay_117 ?_
  refine lv_topi (fun x_32 ex_32 => ?_)
  obtain rfl : x_32 = 9 := ex_32.trans (by decide)
  refine lv_iconst (v := (-1)) hx hb dX8_lay_118 (by decide) ?_
  refine va_iast hx hb hK hP hD hS 2 0 rfl rfl (vin rfl) dX8_lay_119 (fun H locs hP1 hD1 hS1 => ?_)
  clear hP hD hS
  have hP : va_P (dC, dI) vwCl [(m0, .inr (8, mdL AM g)), (AM 0, .inl (cY 0, 72, .inl tb)), (AM 2, .inl (cY 0, 22, .inl (upd (upd (upd (upd (upd (upd (upd (upd (upd (upd (upd (upd (upd (upd (upd (upd (upd sA 0 0) 1 0) 2 0) 3 0) 4 0) 5 0) 6 0) 7 0) 8 0) 9 0) 10 0) 0 place) 1 1000) 2 meter) 4 (-1)) 7 (-1)) 9 (-1)))), (AM 3, .inl (cY 0, 22, .inl rd)), (AM 4, .inl (cY 0, 110, .inl kp)), (AM 5, .inl (cY 0, 8414, .inl td)), (AM 6, .inl (cY 0, 2, .inl wn)), (AM 13, .inl (cY 0, 4, .inl rw)), (AM 14, .inl (cY 0, 4, .inl br))] H := hP1
  have hD : va_D A [(m0, .inr (8, mdL AM g)), (AM 0, .inl (cY 0, 72, .inl tb)), (AM 2, .inl (cY 0, 22, .inl (upd (upd (upd (upd (upd (upd (upd (upd (upd (upd (upd (upd (upd (upd (upd (upd (upd sA 0 0) 1 0) 2 0) 3 0) 4 0) 5 0) 6 0) 7 0) 8 0) 9 0) 10 0) 0 place) 1 1000) 2 meter) 4 (-1)) 7 (-1)) 9 (-1)))), (AM 3, .inl (cY 0, 22, .inl rd)), (AM 4, .inl (cY 0, 110, .inl kp)), (AM 5, .inl (cY 0, 8414, .inl td)), (AM 6, .inl (cY 0, 2, .inl wn)), (AM 13, .inl (cY 0, 4, .inl rw)), (AM 14, .inl (cY 0, 4, .inl br))] := hD1
  have hS := hS1
  clear hP1 hD1 hS1
  refine lv_iinc (v := 11) (lv' := [(5, .int 11), (6, .int 11), (0, .ref m0), (1, .int place), (2, .int other), (3, .int meter), (4, .int otherMeter)]) hx hb dX8_lay_120 hl (k := 1) rfl (by first | rfl | decide) (by decide) rfl (fun ls hl => ?_)
  refine lv_goto (tgt := 3) hx hb dX8_lay_123 (by decide) ?_
  refine lv_iload hx hb dX8_lay_3 (lv_at hl 0 rfl) ?_
  refine lv_bipush (v := 11) hx hb dX8_lay_5 (by decide) ?_
  refine lv_icmp_gt (tgt := 126) hx hb dX8_lay_7 (by decide) (fun c_33 => ?_) (fun c_33 => ?_)
  · exact absurd c_33 (by decide)
  refine lv_iconst (v := 0) hx hb dX8_lay_10 (by decide) ?_
  refine lv_istore (lv' := [(6, .int 0), (5, .int 11), (0, .ref m0), (1, .int place), (2, .int other), (3, .int meter), (4, .int otherMeter)]) hx hb dX8_lay_11 hl (by decide) rfl (fun ls hl => ?_)
  refine lv_iload hx hb dX8_lay_13 (lv_at hl 0 rfl) ?_
  refine lv_bipush (v := 11) hx hb dX8_lay_15 (by decide) ?_
  refine lv_icmp_ge (tgt := 37) hx hb dX8_lay_17 (by decide) (fun c_34 => ?_) (fun c_34 => ?_)
  · exact absurd c_34 (by decide)
  refine lv_aload_n hx hb dX8_lay_20 rfl (lv_at hl 2 rfl) ?_
  refine va_get (D := (dC, dI)) (ci := 8) (v := .ref (AM 2)) (C := RX8) (T := TX8) (N := 17) hx hb hts inw_X8_lay_X8 hown hK hP 0 rfl rfl 2 (by decide) (hts (.fieldLink RX8 13 "DuelFramesModel" "s" "[I") (List.mem_of_getElem? (i := 1) rfl)) (fun _ h9 => h9) rfl dX8_lay_21 ?_
  refine lv_iload hx hb dX8_lay_24 (lv_at hl 1 rfl) ?_
  refine lv_iload hx hb dX8_lay_26 (lv_at hl 0 rfl) ?_
  refine lv_iadd hx hb dX8_lay_28 ?_
  refine lv_topi (fun x_35 ex_35 => ?_)
  obtain rfl : x_35 = 11 := ex_35.trans (by decide)
  refine lv_iconst (v := 0) hx hb dX8_lay_29 (by decide) ?_
  refine va_iast hx hb hK hP hD hS 2 0 rfl rfl (vin rfl) dX8_lay_30 (fun H locs hP1 hD1 hS1 => ?_)
  clear hP hD hS
  have hP : va_P (dC, dI) vwCl [(m0, .inr (8, mdL AM g)), (AM 0, .inl (cY 0, 72, .inl tb)), (AM 2, .inl (cY 0, 22, .inl (upd (upd (upd (upd (upd (upd (upd (upd (upd (upd (upd (upd (upd (upd (upd (upd (upd (upd sA 0 0) 1 0) 2 0) 3 0) 4 0) 5 0) 6 0) 7 0) 8 0) 9 0) 10 0) 0 place) 1 1000) 2 meter) 4 (-1)) 7 (-1)) 9 (-1)) 11 0))), (AM 3, .inl (cY 0, 22, .inl rd)), (AM 4, .inl (cY 0, 110, .inl kp)), (AM 5, .inl (cY 0, 8414, .inl td)), (AM 6, .inl (cY 0, 2, .inl wn)), (AM 13, .inl (cY 0, 4, .inl rw)), (AM 14, .inl (cY 0, 4, .inl br))] H := hP1
  have hD : va_D A [(m0, .inr (8, mdL AM g)), (AM 0, .inl (cY 0, 72, .inl tb)), (AM 2, .inl (cY 0, 22, .inl (upd (upd (upd (upd (upd (upd (upd (upd (upd (upd (upd (upd (upd (upd (upd (upd (upd (upd sA 0 0) 1 0) 2 0) 3 0) 4 0) 5 0) 6 0) 7 0) 8 0) 9 0) 10 0) 0 place) 1 1000) 2 meter) 4 (-1)) 7 (-1)) 9 (-1)) 11 0))), (AM 3, .inl (cY 0, 22, .inl rd)), (AM 4, .inl (cY 0, 110, .inl kp)), (AM 5, .inl (cY 0, 8414, .inl td)), (AM 6, .inl (cY 0, 2, .inl wn)), (AM 13, .inl (cY 0, 4, .inl rw)), (AM 14, .inl (cY 0, 4, .inl br))] := hD1
  have hS := hS1
  clear hP1 hD1 hS1
  refine lv_iinc (v := 1) (lv' := [(6, .int 1), (5, .int 11), (0, .ref m0), (1, .int place), (2, .int other), (3, .int meter), (4, .int otherMeter)]) hx hb dX8_lay_31 hl (k := 0) rfl (by first | rfl | decide) (by decide) rfl (fun ls hl => ?_)
  refine lv_goto (tgt := 13) hx hb dX8_lay_34 (by decide) ?_
  refine lv_iload hx hb dX8_lay_13 (lv_at hl 0 rfl) ?_
  refine lv_bipush (v := 11) hx hb dX8_lay_15 (by decide) ?_
  refine lv_icmp_ge (tgt := 37) hx hb dX8_lay_17 (by decide) (fun c_36 => ?_) (fun c_36 => ?_)
  · exact absurd c_36 (by decide)
  refine lv_aload_n hx hb dX8_lay_20 rfl (lv_at hl 2 rfl) ?_
  refine va_get (D := (dC, dI)) (ci := 8) (v := .ref (AM 2)) (C := RX8) (T := TX8) (N := 17) hx hb hts inw_X8_lay_X8 hown hK hP 0 rfl rfl 2 (by decide) (hts (.fieldLink RX8 13 "DuelFramesModel" "s" "[I") (List.mem_of_getElem? (i := 1) rfl)) (fun _ h9 => h9) rfl dX8_lay_21 ?_
  refine lv_iload hx hb dX8_lay_24 (lv_at hl 1 rfl) ?_
  refine lv_iload hx hb dX8_lay_26 (lv_at hl 0 rfl) ?_
  refine lv_iadd hx hb dX8_lay_28 ?_
  refine lv_topi (fun x_37 ex_37 => ?_)
  obtain rfl : x_37 = 12 := ex_37.trans (by decide)
  refine lv_iconst (v := 0) hx hb dX8_lay_29 (by decide) ?_
  refine va_iast hx hb hK hP hD hS 2 0 rfl rfl (vin rfl) dX8_lay_30 (fun H locs hP1 hD1 hS1 => ?_)
  clear hP hD hS
  have hP : va_P (dC, dI) vwCl [(m0, .inr (8, mdL AM g)), (AM 0, .inl (cY 0, 72, .inl tb)), (AM 2, .inl (cY 0, 22, .inl (upd (upd (upd (upd (upd (upd (upd (upd (upd (upd (upd (upd (upd (upd (upd (upd (upd (upd (upd sA 0 0) 1 0) 2 0) 3 0) 4 0) 5 0) 6 0) 7 0) 8 0) 9 0) 10 0) 0 place) 1 1000) 2 meter) 4 (-1)) 7 (-1)) 9 (-1)) 11 0) 12 0))), (AM 3, .inl (cY 0, 22, .inl rd)), (AM 4, .inl (cY 0, 110, .inl kp)), (AM 5, .inl (cY 0, 8414, .inl td)), (AM 6, .inl (cY 0, 2, .inl wn)), (AM 13, .inl (cY 0, 4, .inl rw)), (AM 14, .inl (cY 0, 4, .inl br))] H := hP1
  have hD : va_D A [(m0, .inr (8, mdL AM g)), (AM 0, .inl (cY 0, 72, .inl tb)), (AM 2, .inl (cY 0, 22, .inl (upd (upd (upd (upd (upd (upd (upd (upd (upd (upd (upd (upd (upd (upd (upd (upd (upd (upd (upd sA 0 0) 1 0) 2 0) 3 0) 4 0) 5 0) 6 0) 7 0) 8 0) 9 0) 10 0) 0 place) 1 1000) 2 meter) 4 (-1)) 7 (-1)) 9 (-1)) 11 0) 12 0))), (AM 3, .inl (cY 0, 22, .inl rd)), (AM 4, .inl (cY 0, 110, .inl kp)), (AM 5, .inl (cY 0, 8414, .inl td)), (AM 6, .inl (cY 0, 2, .inl wn)), (AM 13, .inl (cY 0, 4, .inl rw)), (AM 14, .inl (cY 0, 4, .inl br))] := hD1
  have hS := hS1
  clear hP1 hD1 hS1
  refine lv_iinc (v := 2) (lv' := [(6, .int 2), (5, .int 11), (0, .ref m0), (1, .int place), (2, .int other), (3, .int meter), (4, .int otherMeter)]) hx hb dX8_lay_31 hl (k := 0) rfl (by first | rfl | decide) (by decide) rfl (fun ls hl => ?_)
  refine lv_goto (tgt := 13) hx hb dX8_lay_34 (by decide) ?_
  refine lv_iload hx hb dX8_lay_13 (lv_at hl 0 rfl) ?_
  refine lv_bipush (v := 11) hx hb dX8_lay_15 (by decide) ?_
  refine lv_icmp_ge (tgt := 37) hx hb dX8_lay_17 (by decide) (fun c_38 => ?_) (fun c_38 => ?_)
  · exact absurd c_38 (by decide)
  refine lv_aload_n hx hb dX8_lay_20 rfl (lv_at hl 2 rfl) ?_
  refine va_get (D := (dC, dI)) (ci := 8) (v := .ref (AM 2)) (C := RX8) (T := TX8) (N := 17) hx hb hts inw_X8_lay_X8 hown hK hP 0 rfl rfl 2 (by decide) (hts (.fieldLink RX8 13 "DuelFramesModel" "s" "[I") (List.mem_of_getElem? (i := 1) rfl)) (fun _ h9 => h9) rfl dX8_lay_21 ?_
  refine lv_iload hx hb dX8_lay_24 (lv_at hl 1 rfl) ?_
  refine lv_iload hx hb dX8_lay_26 (lv_at hl 0 rfl) ?_
  refine lv_iadd hx hb dX8_lay_28 ?_
  refine lv_topi (fun x_39 ex_39 => ?_)
  obtain rfl : x_39 = 13 := ex_39.trans (by decide)
  refine lv_iconst (v := 0) hx hb dX8_lay_29 (by decide) ?_
  refine va_iast hx hb hK hP hD hS 2 0 rfl rfl (vin rfl) dX8_lay_30 (fun H locs hP1 hD1 hS1 => ?_)
  clear hP hD hS
  have hP : va_P (dC, dI) vwCl [(m0, .inr (8, mdL AM g)), (AM 0, .inl (cY 0, 72, .inl tb)), (AM 2, .inl (cY 0, 22, .inl (upd (upd (upd (upd (upd (upd (upd (upd (upd (upd (upd (upd (upd (upd (upd (upd (upd (upd (upd (upd sA 0 0) 1 0) 2 0) 3 0) 4 0) 5 0) 6 0) 7 0) 8 0) 9 0) 10 0) 0 place) 1 1000) 2 meter) 4 (-1)) 7 (-1)) 9 (-1)) 11 0) 12 0) 13 0))), (AM 3, .inl (cY 0, 22, .inl rd)), (AM 4, .inl (cY 0, 110, .inl kp)), (AM 5, .inl (cY 0, 8414, .inl td)), (AM 6, .inl (cY 0, 2, .inl wn)), (AM 13, .inl (cY 0, 4, .inl rw)), (AM 14, .inl (cY 0, 4, .inl br))] H := hP1
  have hD : va_D A [(m0, .inr (8, mdL AM g)), (AM 0, .inl (cY 0, 72, .inl tb)), (AM 2, .inl (cY 0, 22, .inl (upd (upd (upd (upd (upd (upd (upd (upd (upd (upd (upd (upd (upd (upd (upd (upd (upd (upd (upd (upd sA 0 0) 1 0) 2 0) 3 0) 4 0) 5 0) 6 0) 7 0) 8 0) 9 0) 10 0) 0 place) 1 1000) 2 meter) 4 (-1)) 7 (-1)) 9 (-1)) 11 0) 12 0) 13 0))), (AM 3, .inl (cY 0, 22, .inl rd)), (AM 4, .inl (cY 0, 110, .inl kp)), (AM 5, .inl (cY 0, 8414, .inl td)), (AM 6, .inl (cY 0, 2, .inl wn)), (AM 13, .inl (cY 0, 4, .inl rw)), (AM 14, .inl (cY 0, 4, .inl br))] := hD1
  have hS := hS1
  clear hP1 hD1 hS1
  refine lv_iinc (v := 3) (lv' := [(6, .int 3), (5, .int 11), (0, .ref m0), (1, .int place), (2, .int other), (3, .int meter), (4, .int otherMeter)]) hx hb dX8_lay_31 hl (k := 0) rfl (by first | rfl | decide) (by decide) rfl (fun ls hl => ?_)
  refine lv_goto (tgt := 13) hx hb dX8_lay_34 (by decide) ?_
  refine lv_iload hx hb dX8_lay_13 (lv_at hl 0 rfl) ?_
  refine lv_bipush (v := 11) hx hb dX8_lay_15 (by decide) ?_
  refine lv_icmp_ge (tgt := 37) hx hb dX8_lay_17 (by decide) (fun c_40 => ?_) (fun c_40 => ?_)
  · exact absurd c_40 (by decide)
  refine lv_aload_n hx hb dX8_lay_20 rfl (lv_at hl 2 rfl) ?_
  refine va_get (D := (dC, dI)) (ci := 8) (v := .ref (AM 2)) (C := RX8) (T := TX8) (N := 17) hx hb hts inw_X8_lay_X8 hown hK hP 0 rfl rfl 2 (by decide) (hts (.fieldLink RX8 13 "DuelFramesModel" "s" "[I") (List.mem_of_getElem? (i := 1) rfl)) (fun _ h9 => h9) rfl dX8_lay_21 ?_
  refine lv_iload hx hb dX8_lay_24 (lv_at hl 1 rfl) ?_
  refine lv_iload hx hb dX8_lay_26 (lv_at hl 0 rfl) ?_
  refine lv_iadd hx hb dX8_lay_28 ?_
  refine lv_topi (fun x_41 ex_41 => ?_)
  obtain rfl : x_41 = 14 := ex_41.trans (by decide)
  refine lv_iconst (v := 0) hx hb dX8_lay_29 (by decide) ?_
  refine va_iast hx hb hK hP hD hS 2 0 rfl rfl (vin rfl) dX8_lay_30 (fun H locs hP1 hD1 hS1 => ?_)
  clear hP hD hS
  have hP : va_P (dC, dI) vwCl [(m0, .inr (8, mdL AM g)), (AM 0, .inl (cY 0, 72, .inl tb)), (AM 2, .inl (cY 0, 22, .inl (upd (upd (upd (upd (upd (upd (upd (upd (upd (upd (upd (upd (upd (upd (upd (upd (upd (upd (upd (upd (upd sA 0 0) 1 0) 2 0) 3 0) 4 0) 5 0) 6 0) 7 0) 8 0) 9 0) 10 0) 0 place) 1 1000) 2 meter) 4 (-1)) 7 (-1)) 9 (-1)) 11 0) 12 0) 13 0) 14 0))), (AM 3, .inl (cY 0, 22, .inl rd)), (AM 4, .inl (cY 0, 110, .inl kp)), (AM 5, .inl (cY 0, 8414, .inl td)), (AM 6, .inl (cY 0, 2, .inl wn)), (AM 13, .inl (cY 0, 4, .inl rw)), (AM 14, .inl (cY 0, 4, .inl br))] H := hP1
  have hD : va_D A [(m0, .inr (8, mdL AM g)), (AM 0, .inl (cY 0, 72, .inl tb)), (AM 2, .inl (cY 0, 22, .inl (upd (upd (upd (upd (upd (upd (upd (upd (upd (upd (upd (upd (upd (upd (upd (upd (upd (upd (upd (upd (upd sA 0 0) 1 0) 2 0) 3 0) 4 0) 5 0) 6 0) 7 0) 8 0) 9 0) 10 0) 0 place) 1 1000) 2 meter) 4 (-1)) 7 (-1)) 9 (-1)) 11 0) 12 0) 13 0) 14 0))), (AM 3, .inl (cY 0, 22, .inl rd)), (AM 4, .inl (cY 0, 110, .inl kp)), (AM 5, .inl (cY 0, 8414, .inl td)), (AM 6, .inl (cY 0, 2, .inl wn)), (AM 13, .inl (cY 0, 4, .inl rw)), (AM 14, .inl (cY 0, 4, .inl br))] := hD1
  have hS := hS1
  clear hP1 hD1 hS1
  refine lv_iinc (v := 4) (lv' := [(6, .int 4), (5, .int 11), (0, .ref m0), (1, .int place), (2, .int other), (3, .int meter), (4, .int otherMeter)]) hx hb dX8_lay_31 hl (k := 0) rfl (by first | rfl | decide) (by decide) rfl (fun ls hl => ?_)
  refine lv_goto (tgt := 13) hx hb dX8_lay_34 (by decide) ?_
  refine lv_iload hx hb dX8_lay_13 (lv_at hl 0 rfl) ?_
  refine lv_bipush (v := 11) hx hb dX8_lay_15 (by decide) ?_
  refine lv_icmp_ge (tgt := 37) hx hb dX8_lay_17 (by decide) (fun c_42 => ?_) (fun c_42 => ?_)
  · exact absurd c_42 (by decide)
  refine lv_aload_n hx hb dX8_lay_20 rfl (lv_at hl 2 rfl) ?_
  refine va_get (D := (dC, dI)) (ci := 8) (v := .ref (AM 2)) (C := RX8) (T := TX8) (N := 17) hx hb hts inw_X8_lay_X8 hown hK hP 0 rfl rfl 2 (by decide) (hts (.fieldLink RX8 13 "DuelFramesModel" "s" "[I") (List.mem_of_getElem? (i := 1) rfl)) (fun _ h9 => h9) rfl dX8_lay_21 ?_
  refine lv_iload hx hb dX8_lay_24 (lv_at hl 1 rfl) ?_
  refine lv_iload hx hb dX8_lay_26 (lv_at hl 0 rfl) ?_
  refine lv_iadd hx hb dX8_lay_28 ?_
  refine lv_topi (fun x_43 ex_43 => ?_)
  obtain rfl : x_43 = 15 := ex_43.trans (by decide)
  refine lv_iconst (v := 0) hx hb dX8_lay_29 (by decide) ?_
  refine va_iast hx hb hK hP hD hS 2 0 rfl rfl (vin rfl) dX8_lay_30 (fun H locs hP1 hD1 hS1 => ?_)
  clear hP hD hS
  have hP : va_P (dC, dI) vwCl [(m0, .inr (8, mdL AM g)), (AM 0, .inl (cY 0, 72, .inl tb)), (AM 2, .inl (cY 0, 22, .inl (upd (upd (upd (upd (upd (upd (upd (upd (upd (upd (upd (upd (upd (upd (upd (upd (upd (upd (upd (upd (upd (upd sA 0 0) 1 0) 2 0) 3 0) 4 0) 5 0) 6 0) 7 0) 8 0) 9 0) 10 0) 0 place) 1 1000) 2 meter) 4 (-1)) 7 (-1)) 9 (-1)) 11 0) 12 0) 13 0) 14 0) 15 0))), (AM 3, .inl (cY 0, 22, .inl rd)), (AM 4, .inl (cY 0, 110, .inl kp)), (AM 5, .inl (cY 0, 8414, .inl td)), (AM 6, .inl (cY 0, 2, .inl wn)), (AM 13, .inl (cY 0, 4, .inl rw)), (AM 14, .inl (cY 0, 4, .inl br))] H := hP1
  have hD : va_D A [(m0, .inr (8, mdL AM g)), (AM 0, .inl (cY 0, 72, .inl tb)), (AM 2, .inl (cY 0, 22, .inl (upd (upd (upd (upd (upd (upd (upd (upd (upd (upd (upd (upd (upd (upd (upd (upd (upd (upd (upd (upd (upd (upd sA 0 0) 1 0) 2 0) 3 0) 4 0) 5 0) 6 0) 7 0) 8 0) 9 0) 10 0) 0 place) 1 1000) 2 meter) 4 (-1)) 7 (-1)) 9 (-1)) 11 0) 12 0) 13 0) 14 0) 15 0))), (AM 3, .inl (cY 0, 22, .inl rd)), (AM 4, .inl (cY 0, 110, .inl kp)), (AM 5, .inl (cY 0, 8414, .inl td)), (AM 6, .inl (cY 0, 2, .inl wn)), (AM 13, .inl (cY 0, 4, .inl rw)), (AM 14, .inl (cY 0, 4, .inl br))] := hD1
  have hS := hS1
  clear hP1 hD1 hS1
  refine lv_iinc (v := 5) (lv' := [(6, .int 5), (5, .int 11), (0, .ref m0), (1, .int place), (2, .int other), (3, .int meter), (4, .int otherMeter)]) hx hb dX8_lay_31 hl (k := 0) rfl (by first | rfl | decide) (by decide) rfl (fun ls hl => ?_)
  refine lv_goto (tgt := 13) hx hb dX8_lay_34 (by decide) ?_
  refine lv_iload hx hb dX8_lay_13 (lv_at hl 0 rfl) ?_
  refine lv_bipush (v := 11) hx hb dX8_lay_15 (by decide) ?_
  refine lv_icmp_ge (tgt := 37) hx hb dX8_lay_17 (by decide) (fun c_44 => ?_) (fun c_44 => ?_)
  · exact absurd c_44 (by decide)
  refine lv_aload_n hx hb dX8_lay_20 rfl (lv_at hl 2 rfl) ?_
  refine va_get (D := (dC, dI)) (ci := 8) (v := .ref (AM 2)) (C := RX8) (T := TX8) (N := 17) hx hb hts inw_X8_lay_X8 hown hK hP 0 rfl rfl 2 (by decide) (hts (.fieldLink RX8 13 "DuelFramesModel" "s" "[I") (List.mem_of_getElem? (i := 1) rfl)) (fun _ h9 => h9) rfl dX8_lay_21 ?_
  refine lv_iload hx hb dX8_lay_24 (lv_at hl 1 rfl) ?_
  refine lv_iload hx hb dX8_lay_26 (lv_at hl 0 rfl) ?_
  refine lv_iadd hx hb dX8_lay_28 ?_
  refine lv_topi (fun x_45 ex_45 => ?_)
  obtain rfl : x_45 = 16 := ex_45.trans (by decide)
  refine lv_iconst (v := 0) hx hb dX8_lay_29 (by decide) ?_
  refine va_iast hx hb hK hP hD hS 2 0 rfl rfl (vin rfl) dX8_lay_30 (fun H locs hP1 hD1 hS1 => ?_)
  clear hP hD hS
  have hP : va_P (dC, dI) vwCl [(m0, .inr (8, mdL AM g)), (AM 0, .inl (cY 0, 72, .inl tb)), (AM 2, .inl (cY 0, 22, .inl (upd (upd (upd (upd (upd (upd (upd (upd (upd (upd (upd (upd (upd (upd (upd (upd (upd (upd (upd (upd (upd (upd (upd sA 0 0) 1 0) 2 0) 3 0) 4 0) 5 0) 6 0) 7 0) 8 0) 9 0) 10 0) 0 place) 1 1000) 2 meter) 4 (-1)) 7 (-1)) 9 (-1)) 11 0) 12 0) 13 0) 14 0) 15 0) 16 0))), (AM 3, .inl (cY 0, 22, .inl rd)), (AM 4, .inl (cY 0, 110, .inl kp)), (AM 5, .inl (cY 0, 8414, .inl td)), (AM 6, .inl (cY 0, 2, .inl wn)), (AM 13, .inl (cY 0, 4, .inl rw)), (AM 14, .inl (cY 0, 4, .inl br))] H := hP1
  have hD : va_D A [(m0, .inr (8, mdL AM g)), (AM 0, .inl (cY 0, 72, .inl tb)), (AM 2, .inl (cY 0, 22, .inl (upd (upd (upd (upd (upd (upd (upd (upd (upd (upd (upd (upd (upd (upd (upd (upd (upd (upd (upd (upd (upd (upd (upd sA 0 0) 1 0) 2 0) 3 0) 4 0) 5 0) 6 0) 7 0) 8 0) 9 0) 10 0) 0 place) 1 1000) 2 meter) 4 (-1)) 7 (-1)) 9 (-1)) 11 0) 12 0) 13 0) 14 0) 15 0) 16 0))), (AM 3, .inl (cY 0, 22, .inl rd)), (AM 4, .inl (cY 0, 110, .inl kp)), (AM 5, .inl (cY 0, 8414, .inl td)), (AM 6, .inl (cY 0, 2, .inl wn)), (AM 13, .inl (cY 0, 4, .inl rw)), (AM 14, .inl (cY 0, 4, .inl br))] := hD1
  have hS := hS1
  clear hP1 hD1 hS1
  refine lv_iinc (v := 6) (lv' := [(6, .int 6), (5, .int 11), (0, .ref m0), (1, .int place), (2, .int other), (3, .int meter), (4, .int otherMeter)]) hx hb dX8_lay_31 hl (k := 0) rfl (by first | rfl | decide) (by decide) rfl (fun ls hl => ?_)
  refine lv_goto (tgt := 13) hx hb dX8_lay_34 (by decide) ?_
  refine lv_iload hx hb dX8_lay_13 (lv_at hl 0 rfl) ?_
  refine lv_bipush (v := 11) hx hb dX8_lay_15 (by decide) ?_
  refine lv_icmp_ge (tgt := 37) hx hb dX8_lay_17 (by decide) (fun c_46 => ?_) (fun c_46 => ?_)
  · exact absurd c_46 (by decide)
  refine lv_aload_n hx hb dX8_lay_20 rfl (lv_at hl 2 rfl) ?_
  refine va_get (D := (dC, dI)) (ci := 8) (v := .ref (AM 2)) (C := RX8) (T := TX8) (N := 17) hx hb hts inw_X8_lay_X8 hown hK hP 0 rfl rfl 2 (by decide) (hts (.fieldLink RX8 13 "DuelFramesModel" "s" "[I") (List.mem_of_getElem? (i := 1) rfl)) (fun _ h9 => h9) rfl dX8_lay_21 ?_
  refine lv_iload hx hb dX8_lay_24 (lv_at hl 1 rfl) ?_
  refine lv_iload hx hb dX8_lay_26 (lv_at hl 0 rfl) ?_
  refine lv_iadd hx hb dX8_lay_28 ?_
  refine lv_topi (fun x_47 ex_47 => ?_)
  obtain rfl : x_47 = 17 := ex_47.trans (by decide)
  refine lv_iconst (v := 0) hx hb dX8_lay_29 (by decide) ?_
  refine va_iast hx hb hK hP hD hS 2 0 rfl rfl (vin rfl) dX8_lay_30 (fun H locs hP1 hD1 hS1 => ?_)
  clear hP hD hS
  have hP : va_P (dC, dI) vwCl [(m0, .inr (8, mdL AM g)), (AM 0, .inl (cY 0, 72, .inl tb)), (AM 2, .inl (cY 0, 22, .inl (upd (upd (upd (upd (upd (upd (upd (upd (upd (upd (upd (upd (upd (upd (upd (upd (upd (upd (upd (upd (upd (upd (upd (upd sA 0 0) 1 0) 2 0) 3 0) 4 0) 5 0) 6 0) 7 0) 8 0) 9 0) 10 0) 0 place) 1 1000) 2 meter) 4 (-1)) 7 (-1)) 9 (-1)) 11 0) 12 0) 13 0) 14 0) 15 0) 16 0) 17 0))), (AM 3, .inl (cY 0, 22, .inl rd)), (AM 4, .inl (cY 0, 110, .inl kp)), (AM 5, .inl (cY 0, 8414, .inl td)), (AM 6, .inl (cY 0, 2, .inl wn)), (AM 13, .inl (cY 0, 4, .inl rw)), (AM 14, .inl (cY 0, 4, .inl br))] H := hP1
  have hD : va_D A [(m0, .inr (8, mdL AM g)), (AM 0, .inl (cY 0, 72, .inl tb)), (AM 2, .inl (cY 0, 22, .inl (upd (upd (upd (upd (upd (upd (upd (upd (upd (upd (upd (upd (upd (upd (upd (upd (upd (upd (upd (upd (upd (upd (upd (upd sA 0 0) 1 0) 2 0) 3 0) 4 0) 5 0) 6 0) 7 0) 8 0) 9 0) 10 0) 0 place) 1 1000) 2 meter) 4 (-1)) 7 (-1)) 9 (-1)) 11 0) 12 0) 13 0) 14 0) 15 0) 16 0) 17 0))), (AM 3, .inl (cY 0, 22, .inl rd)), (AM 4, .inl (cY 0, 110, .inl kp)), (AM 5, .inl (cY 0, 8414, .inl td)), (AM 6, .inl (cY 0, 2, .inl wn)), (AM 13, .inl (cY 0, 4, .inl rw)), (AM 14, .inl (cY 0, 4, .inl br))] := hD1
  have hS := hS1
  clear hP1 hD1 hS1
  refine lv_iinc (v := 7) (lv' := [(6, .int 7), (5, .int 11), (0, .ref m0), (1, .int place), (2, .int other), (3, .int meter), (4, .int otherMeter)]) hx hb dX8_lay_31 hl (k := 0) rfl (by first | rfl | decide) (by decide) rfl (fun ls hl => ?_)
  refine lv_goto (tgt := 13) hx hb dX8_lay_34 (by decide) ?_
  refine lv_iload hx hb dX8_lay_13 (lv_at hl 0 rfl) ?_
  refine lv_bipush (v := 11) hx hb dX8_lay_15 (by decide) ?_
  refine lv_icmp_ge (tgt := 37) hx hb dX8_lay_17 (by decide) (fun c_48 => ?_) (fun c_48 => ?_)
  · exact absurd c_48 (by decide)
  refine lv_aload_n hx hb dX8_lay_20 rfl (lv_at hl 2 rfl) ?_
  refine va_get (D := (dC, dI)) (ci := 8) (v := .ref (AM 2)) (C := RX8) (T := TX8) (N := 17) hx hb hts inw_X8_lay_X8 hown hK hP 0 rfl rfl 2 (by decide) (hts (.fieldLink RX8 13 "DuelFramesModel" "s" "[I") (List.mem_of_getElem? (i := 1) rfl)) (fun _ h9 => h9) rfl dX8_lay_21 ?_
  refine lv_iload hx hb dX8_lay_24 (lv_at hl 1 rfl) ?_
  refine lv_iload hx hb dX8_lay_26 (lv_at hl 0 rfl) ?_
  refine lv_iadd hx hb dX8_lay_28 ?_
  refine lv_topi (fun x_49 ex_49 => ?_)
  obtain rfl : x_49 = 18 := ex_49.trans (by decide)
  refine lv_iconst (v := 0) hx hb dX8_lay_29 (by decide) ?_
  refine va_iast hx hb hK hP hD hS 2 0 rfl rfl (vin rfl) dX8_lay_30 (fun H locs hP1 hD1 hS1 => ?_)
  clear hP hD hS
  have hP : va_P (dC, dI) vwCl [(m0, .inr (8, mdL AM g)), (AM 0, .inl (cY 0, 72, .inl tb)), (AM 2, .inl (cY 0, 22, .inl (upd (upd (upd (upd (upd (upd (upd (upd (upd (upd (upd (upd (upd (upd (upd (upd (upd (upd (upd (upd (upd (upd (upd (upd (upd sA 0 0) 1 0) 2 0) 3 0) 4 0) 5 0) 6 0) 7 0) 8 0) 9 0) 10 0) 0 place) 1 1000) 2 meter) 4 (-1)) 7 (-1)) 9 (-1)) 11 0) 12 0) 13 0) 14 0) 15 0) 16 0) 17 0) 18 0))), (AM 3, .inl (cY 0, 22, .inl rd)), (AM 4, .inl (cY 0, 110, .inl kp)), (AM 5, .inl (cY 0, 8414, .inl td)), (AM 6, .inl (cY 0, 2, .inl wn)), (AM 13, .inl (cY 0, 4, .inl rw)), (AM 14, .inl (cY 0, 4, .inl br))] H := hP1
  have hD : va_D A [(m0, .inr (8, mdL AM g)), (AM 0, .inl (cY 0, 72, .inl tb)), (AM 2, .inl (cY 0, 22, .inl (upd (upd (upd (upd (upd (upd (upd (upd (upd (upd (upd (upd (upd (upd (upd (upd (upd (upd (upd (upd (upd (upd (upd (upd (upd sA 0 0) 1 0) 2 0) 3 0) 4 0) 5 0) 6 0) 7 0) 8 0) 9 0) 10 0) 0 place) 1 1000) 2 meter) 4 (-1)) 7 (-1)) 9 (-1)) 11 0) 12 0) 13 0) 14 0) 15 0) 16 0) 17 0) 18 0))), (AM 3, .inl (cY 0, 22, .inl rd)), (AM 4, .inl (cY 0, 110, .inl kp)), (AM 5, .inl (cY 0, 8414, .inl td)), (AM 6, .inl (cY 0, 2, .inl wn)), (AM 13, .inl (cY 0, 4, .inl rw)), (AM 14, .inl (cY 0, 4, .inl br))] := hD1
  have hS := hS1
  clear hP1 hD1 hS1
  refine lv_iinc (v := 8) (lv' := [(6, .int 8), (5, .int 11), (0, .ref m0), (1, .int place), (2, .int other), (3, .int meter), (4, .int otherMeter)]) hx hb dX8_lay_31 hl (k := 0) rfl (by first | rfl | decide) (by decide) rfl (fun ls hl => ?_)
  refine lv_goto (tgt := 13) hx hb dX8_lay_34 (by decide) ?_
  refine lv_iload hx hb dX8_lay_13 (lv_at hl 0 rfl) ?_
  refine lv_bipush (v := 11) hx hb dX8_lay_15 (by decide) ?_
  refine lv_icmp_ge (tgt := 37) hx hb dX8_lay_17 (by decide) (fun c_50 => ?_) (fun c_50 => ?_)
  · exact absurd c_50 (by decide)
  refine lv_aload_n hx hb dX8_lay_20 rfl (lv_at hl 2 rfl) ?_
  refine va_get (D := (dC, dI)) (ci := 8) (v := .ref (AM 2)) (C := RX8) (T := TX8) (N := 17) hx hb hts inw_X8_lay_X8 hown hK hP 0 rfl rfl 2 (by decide) (hts (.fieldLink RX8 13 "DuelFramesModel" "s" "[I") (List.mem_of_getElem? (i := 1) rfl)) (fun _ h9 => h9) rfl dX8_lay_21 ?_
  refine lv_iload hx hb dX8_lay_24 (lv_at hl 1 rfl) ?_
  refine lv_iload hx hb dX8_lay_26 (lv_at hl 0 rfl) ?_
  refine lv_iadd hx hb dX8_lay_28 ?_
  refine lv_topi (fun x_51 ex_51 => ?_)
  obtain rfl : x_51 = 19 := ex_51.trans (by decide)
  refine lv_iconst (v := 0) hx hb dX8_lay_29 (by decide) ?_
  refine va_iast hx hb hK hP hD hS 2 0 rfl rfl (vin rfl) dX8_lay_30 (fun H locs hP1 hD1 hS1 => ?_)
  clear hP hD hS
  have hP : va_P (dC, dI) vwCl [(m0, .inr (8, mdL AM g)), (AM 0, .inl (cY 0, 72, .inl tb)), (AM 2, .inl (cY 0, 22, .inl (upd (upd (upd (upd (upd (upd (upd (upd (upd (upd (upd (upd (upd (upd (upd (upd (upd (upd (upd (upd (upd (upd (upd (upd (upd (upd sA 0 0) 1 0) 2 0) 3 0) 4 0) 5 0) 6 0) 7 0) 8 0) 9 0) 10 0) 0 place) 1 1000) 2 meter) 4 (-1)) 7 (-1)) 9 (-1)) 11 0) 12 0) 13 0) 14 0) 15 0) 16 0) 17 0) 18 0) 19 0))), (AM 3, .inl (cY 0, 22, .inl rd)), (AM 4, .inl (cY 0, 110, .inl kp)), (AM 5, .inl (cY 0, 8414, .inl td)), (AM 6, .inl (cY 0, 2, .inl wn)), (AM 13, .inl (cY 0, 4, .inl rw)), (AM 14, .inl (cY 0, 4, .inl br))] H := hP1
  have hD : va_D A [(m0, .inr (8, mdL AM g)), (AM 0, .inl (cY 0, 72, .inl tb)), (AM 2, .inl (cY 0, 22, .inl (upd (upd (upd (upd (upd (upd (upd (upd (upd (upd (upd (upd (upd (upd (upd (upd (upd (upd (upd (upd (upd (upd (upd (upd (upd (upd sA 0 0) 1 0) 2 0) 3 0) 4 0) 5 0) 6 0) 7 0) 8 0) 9 0) 10 0) 0 place) 1 1000) 2 meter) 4 (-1)) 7 (-1)) 9 (-1)) 11 0) 12 0) 13 0) 14 0) 15 0) 16 0) 17 0) 18 0) 19 0))), (AM 3, .inl (cY 0, 22, .inl rd)), (AM 4, .inl (cY 0, 110, .inl kp)), (AM 5, .inl (cY 0, 8414, .inl td)), (AM 6, .inl (cY 0, 2, .inl wn)), (AM 13, .inl (cY 0, 4, .inl rw)), (AM 14, .inl (cY 0, 4, .inl br))] := hD1
  have hS := hS1
  clear hP1 hD1 hS1
  refine lv_iinc (v := 9) (lv' := [(6, .int 9), (5, .int 11), (0, .ref m0), (1, .int place), (2, .int other), (3, .int meter), (4, .int otherMeter)]) hx hb dX8_lay_31 hl (k := 0) rfl (by first | rfl | decide) (by decide) rfl (fun ls hl => ?_)
  refine lv_goto (tgt := 13) hx hb dX8_lay_34 (by decide) ?_
  refine lv_iload hx hb dX8_lay_13 (lv_at hl 0 rfl) ?_
  refine lv_bipush (v := 11) hx hb dX8_lay_15 (by decide) ?_
  refine lv_icmp_ge (tgt := 37) hx hb dX8_lay_17 (by decide) (fun c_52 => ?_) (fun c_52 => ?_)
  · exact absurd c_52 (by decide)
  refine lv_aload_n hx hb dX8_lay_20 rfl (lv_at hl 2 rfl) ?_
  refine va_get (D := (dC, dI)) (ci := 8) (v := .ref (AM 2)) (C := RX8) (T := TX8) (N := 17) hx hb hts inw_X8_lay_X8 hown hK hP 0 rfl rfl 2 (by decide) (hts (.fieldLink RX8 13 "DuelFramesModel" "s" "[I") (List.mem_of_getElem? (i := 1) rfl)) (fun _ h9 => h9) rfl dX8_lay_21 ?_
  refine lv_iload hx hb dX8_lay_24 (lv_at hl 1 rfl) ?_
  refine lv_iload hx hb dX8_lay_26 (lv_at hl 0 rfl) ?_
  refine lv_iadd hx hb dX8_lay_28 ?_
  refine lv_topi (fun x_53 ex_53 => ?_)
  obtain rfl : x_53 = 20 := ex_53.trans (by decide)
  refine lv_iconst (v := 0) hx hb dX8_lay_29 (by decide) ?_
  refine va_iast hx hb hK hP hD hS 2 0 rfl rfl (vin rfl) dX8_lay_30 (fun H locs hP1 hD1 hS1 => ?_)
  clear hP hD hS
  have hP : va_P (dC, dI) vwCl [(m0, .inr (8, mdL AM g)), (AM 0, .inl (cY 0, 72, .inl tb)), (AM 2, .inl (cY 0, 22, .inl (upd (upd (upd (upd (upd (upd (upd (upd (upd (upd (upd (upd (upd (upd (upd (upd (upd (upd (upd (upd (upd (upd (upd (upd (upd (upd (upd sA 0 0) 1 0) 2 0) 3 0) 4 0) 5 0) 6 0) 7 0) 8 0) 9 0) 10 0) 0 place) 1 1000) 2 meter) 4 (-1)) 7 (-1)) 9 (-1)) 11 0) 12 0) 13 0) 14 0) 15 0) 16 0) 17 0) 18 0) 19 0) 20 0))), (AM 3, .inl (cY 0, 22, .inl rd)), (AM 4, .inl (cY 0, 110, .inl kp)), (AM 5, .inl (cY 0, 8414, .inl td)), (AM 6, .inl (cY 0, 2, .inl wn)), (AM 13, .inl (cY 0, 4, .inl rw)), (AM 14, .inl (cY 0, 4, .inl br))] H := hP1
  have hD : va_D A [(m0, .inr (8, mdL AM g)), (AM 0, .inl (cY 0, 72, .inl tb)), (AM 2, .inl (cY 0, 22, .inl (upd (upd (upd (upd (upd (upd (upd (upd (upd (upd (upd (upd (upd (upd (upd (upd (upd (upd (upd (upd (upd (upd (upd (upd (upd (upd (upd sA 0 0) 1 0) 2 0) 3 0) 4 0) 5 0) 6 0) 7 0) 8 0) 9 0) 10 0) 0 place) 1 1000) 2 meter) 4 (-1)) 7 (-1)) 9 (-1)) 11 0) 12 0) 13 0) 14 0) 15 0) 16 0) 17 0) 18 0) 19 0) 20 0))), (AM 3, .inl (cY 0, 22, .inl rd)), (AM 4, .inl (cY 0, 110, .inl kp)), (AM 5, .inl (cY 0, 8414, .inl td)), (AM 6, .inl (cY 0, 2, .inl wn)), (AM 13, .inl (cY 0, 4, .inl rw)), (AM 14, .inl (cY 0, 4, .inl br))] := hD1
  have hS := hS1
  clear hP1 hD1 hS1
  refine lv_iinc (v := 10) (lv' := [(6, .int 10), (5, .int 11), (0, .ref m0), (1, .int place), (2, .int other), (3, .int meter), (4, .int otherMeter)]) hx hb dX8_lay_31 hl (k := 0) rfl (by first | rfl | decide) (by decide) rfl (fun ls hl => ?_)
  refine lv_goto (tgt := 13) hx hb dX8_lay_34 (by decide) ?_
  refine lv_iload hx hb dX8_lay_13 (lv_at hl 0 rfl) ?_
  refine lv_bipush (v := 11) hx hb dX8_lay_15 (by decide) ?_
  refine lv_icmp_ge (tgt := 37) hx hb dX8_lay_17 (by decide) (fun c_54 => ?_) (fun c_54 => ?_)
  · exact absurd c_54 (by decide)
  refine lv_aload_n hx hb dX8_lay_20 rfl (lv_at hl 2 rfl) ?_
  refine va_get (D := (dC, dI)) (ci := 8) (v := .ref (AM 2)) (C := RX8) (T := TX8) (N := 17) hx hb hts inw_X8_lay_X8 hown hK hP 0 rfl rfl 2 (by decide) (hts (.fieldLink RX8 13 "DuelFramesModel" "s" "[I") (List.mem_of_getElem? (i := 1) rfl)) (fun _ h9 => h9) rfl dX8_lay_21 ?_
  refine lv_iload hx hb dX8_lay_24 (lv_at hl 1 rfl) ?_
  refine lv_iload hx hb dX8_lay_26 (lv_at hl 0 rfl) ?_
  refine lv_iadd hx hb dX8_lay_28 ?_
  refine lv_topi (fun x_55 ex_55 => ?_)
  obtain rfl : x_55 = 21 := ex_55.trans (by decide)
  refine lv_iconst (v := 0) hx hb dX8_lay_29 (by decide) ?_
  refine va_iast hx hb hK hP hD hS 2 0 rfl rfl (vin rfl) dX8_lay_30 (fun H locs hP1 hD1 hS1 => ?_)
  clear hP hD hS
  have hP : va_P (dC, dI) vwCl [(m0, .inr (8, mdL AM g)), (AM 0, .inl (cY 0, 72, .inl tb)), (AM 2, .inl (cY 0, 22, .inl (upd (upd (upd (upd (upd (upd (upd (upd (upd (upd (upd (upd (upd (upd (upd (upd (upd (upd (upd (upd (upd (upd (upd (upd (upd (upd (upd (upd sA 0 0) 1 0) 2 0) 3 0) 4 0) 5 0) 6 0) 7 0) 8 0) 9 0) 10 0) 0 place) 1 1000) 2 meter) 4 (-1)) 7 (-1)) 9 (-1)) 11 0) 12 0) 13 0) 14 0) 15 0) 16 0) 17 0) 18 0) 19 0) 20 0) 21 0))), (AM 3, .inl (cY 0, 22, .inl rd)), (AM 4, .inl (cY 0, 110, .inl kp)), (AM 5, .inl (cY 0, 8414, .inl td)), (AM 6, .inl (cY 0, 2, .inl wn)), (AM 13, .inl (cY 0, 4, .inl rw)), (AM 14, .inl (cY 0, 4, .inl br))] H := hP1
  have hD : va_D A [(m0, .inr (8, mdL AM g)), (AM 0, .inl (cY 0, 72, .inl tb)), (AM 2, .inl (cY 0, 22, .inl (upd (upd (upd (upd (upd (upd (upd (upd (upd (upd (upd (upd (upd (upd (upd (upd (upd (upd (upd (upd (upd (upd (upd (upd (upd (upd (upd (upd sA 0 0) 1 0) 2 0) 3 0) 4 0) 5 0) 6 0) 7 0) 8 0) 9 0) 10 0) 0 place) 1 1000) 2 meter) 4 (-1)) 7 (-1)) 9 (-1)) 11 0) 12 0) 13 0) 14 0) 15 0) 16 0) 17 0) 18 0) 19 0) 20 0) 21 0))), (AM 3, .inl (cY 0, 22, .inl rd)), (AM 4, .inl (cY 0, 110, .inl kp)), (AM 5, .inl (cY 0, 8414, .inl td)), (AM 6, .inl (cY 0, 2, .inl wn)), (AM 13, .inl (cY 0, 4, .inl rw)), (AM 14, .inl (cY 0, 4, .inl br))] := hD1
  have hS := hS1
  clear hP1 hD1 hS1
  refine lv_iinc (v := 11) (lv' := [(6, .int 11), (5, .int 11), (0, .ref m0), (1, .int place), (2, .int other), (3, .int meter), (4, .int otherMeter)]) hx hb dX8_lay_31 hl (k := 0) rfl (by first | rfl | decide) (by decide) rfl (fun ls hl => ?_)
  refine lv_goto (tgt := 13) hx hb dX8_lay_34 (by decide) ?_
  refine lv_iload hx hb dX8_lay_13 (lv_at hl 0 rfl) ?_
  refine lv_bipush (v := 11) hx hb dX8_lay_15 (by decide) ?_
  refine lv_icmp_ge (tgt := 37) hx hb dX8_lay_17 (by decide) (fun c_56 => ?_) (fun c_56 => ?_)
  rotate_left
  · exact absurd (by decide) c_56
  refine lv_aload_n hx hb dX8_lay_37 rfl (lv_at hl 2 rfl) ?_
  refine va_get (D := (dC, dI)) (ci := 8) (v := .ref (AM 2)) (C := RX8) (T := TX8) (N := 17) hx hb hts inw_X8_lay_X8 hown hK hP 0 rfl rfl 2 (by decide) (hts (.fieldLink RX8 13 "DuelFramesModel" "s" "[I") (List.mem_of_getElem? (i := 1) rfl)) (fun _ h9 => h9) rfl dX8_lay_38 ?_
  refine lv_iload hx hb dX8_lay_41 (lv_at hl 1 rfl) ?_
  refine lv_iconst (v := 0) hx hb dX8_lay_43 (by decide) ?_
  refine lv_iadd hx hb dX8_lay_44 ?_
  refine lv_topi (fun x_57 ex_57 => ?_)
  obtain rfl : x_57 = 11 := ex_57.trans (by decide)
  refine lv_iload hx hb dX8_lay_45 (lv_at hl 1 rfl) ?_
  refine lv_if_ne (tgt := 54) hx hb dX8_lay_47 (by decide) (fun c_58 => ?_) (fun c_58 => ?_)
  rotate_left
  · exact absurd c_58 (by decide)
  refine lv_iload_n hx hb dX8_lay_54 rfl (lv_at hl 4 rfl) ?_
  refine va_iast hx hb hK hP hD hS 2 0 rfl rfl (vin rfl) dX8_lay_55 (fun H locs hP1 hD1 hS1 => ?_)
  clear hP hD hS
  have hP : va_P (dC, dI) vwCl [(m0, .inr (8, mdL AM g)), (AM 0, .inl (cY 0, 72, .inl tb)), (AM 2, .inl (cY 0, 22, .inl (upd (upd (upd (upd (upd (upd (upd (upd (upd (upd (upd (upd (upd (upd (upd (upd (upd (upd (upd (upd (upd (upd (upd (upd (upd (upd (upd (upd (upd sA 0 0) 1 0) 2 0) 3 0) 4 0) 5 0) 6 0) 7 0) 8 0) 9 0) 10 0) 0 place) 1 1000) 2 meter) 4 (-1)) 7 (-1)) 9 (-1)) 11 0) 12 0) 13 0) 14 0) 15 0) 16 0) 17 0) 18 0) 19 0) 20 0) 21 0) 11 other))), (AM 3, .inl (cY 0, 22, .inl rd)), (AM 4, .inl (cY 0, 110, .inl kp)), (AM 5, .inl (cY 0, 8414, .inl td)), (AM 6, .inl (cY 0, 2, .inl wn)), (AM 13, .inl (cY 0, 4, .inl rw)), (AM 14, .inl (cY 0, 4, .inl br))] H := hP1
  have hD : va_D A [(m0, .inr (8, mdL AM g)), (AM 0, .inl (cY 0, 72, .inl tb)), (AM 2, .inl (cY 0, 22, .inl (upd (upd (upd (upd (upd (upd (upd (upd (upd (upd (upd (upd (upd (upd (upd (upd (upd (upd (upd (upd (upd (upd (upd (upd (upd (upd (upd (upd (upd sA 0 0) 1 0) 2 0) 3 0) 4 0) 5 0) 6 0) 7 0) 8 0) 9 0) 10 0) 0 place) 1 1000) 2 meter) 4 (-1)) 7 (-1)) 9 (-1)) 11 0) 12 0) 13 0) 14 0) 15 0) 16 0) 17 0) 18 0) 19 0) 20 0) 21 0) 11 other))), (AM 3, .inl (cY 0, 22, .inl rd)), (AM 4, .inl (cY 0, 110, .inl kp)), (AM 5, .inl (cY 0, 8414, .inl td)), (AM 6, .inl (cY 0, 2, .inl wn)), (AM 13, .inl (cY 0, 4, .inl rw)), (AM 14, .inl (cY 0, 4, .inl br))] := hD1
  have hS := hS1
  clear hP1 hD1 hS1
  refine lv_aload_n hx hb dX8_lay_56 rfl (lv_at hl 2 rfl) ?_
  refine va_get (D := (dC, dI)) (ci := 8) (v := .ref (AM 2)) (C := RX8) (T := TX8) (N := 17) hx hb hts inw_X8_lay_X8 hown hK hP 0 rfl rfl 2 (by decide) (hts (.fieldLink RX8 13 "DuelFramesModel" "s" "[I") (List.mem_of_getElem? (i := 1) rfl)) (fun _ h9 => h9) rfl dX8_lay_57 ?_
  refine lv_iload hx hb dX8_lay_60 (lv_at hl 1 rfl) ?_
  refine lv_iconst (v := 1) hx hb dX8_lay_62 (by decide) ?_
  refine lv_iadd hx hb dX8_lay_63 ?_
  refine lv_topi (fun x_59 ex_59 => ?_)
  obtain rfl : x_59 = 12 := ex_59.trans (by decide)
  refine lv_sipush (v := 1000) hx hb dX8_lay_64 (by decide) ?_
  refine va_iast hx hb hK hP hD hS 2 0 rfl rfl (vin rfl) dX8_lay_67 (fun H locs hP1 hD1 hS1 => ?_)
  clear hP hD hS
  have hP : va_P (dC, dI) vwCl [(m0, .inr (8, mdL AM g)), (AM 0, .inl (cY 0, 72, .inl tb)), (AM 2, .inl (cY 0, 22, .inl (upd (upd (upd (upd (upd (upd (upd (upd (upd (upd (upd (upd (upd (upd (upd (upd (upd (upd (upd (upd (upd (upd (upd (upd (upd (upd (upd (upd (upd (upd sA 0 0) 1 0) 2 0) 3 0) 4 0) 5 0) 6 0) 7 0) 8 0) 9 0) 10 0) 0 place) 1 1000) 2 meter) 4 (-1)) 7 (-1)) 9 (-1)) 11 0) 12 0) 13 0) 14 0) 15 0) 16 0) 17 0) 18 0) 19 0) 20 0) 21 0) 11 other) 12 1000))), (AM 3, .inl (cY 0, 22, .inl rd)), (AM 4, .inl (cY 0, 110, .inl kp)), (AM 5, .inl (cY 0, 8414, .inl td)), (AM 6, .inl (cY 0, 2, .inl wn)), (AM 13, .inl (cY 0, 4, .inl rw)), (AM 14, .inl (cY 0, 4, .inl br))] H := hP1
  have hD : va_D A [(m0, .inr (8, mdL AM g)), (AM 0, .inl (cY 0, 72, .inl tb)), (AM 2, .inl (cY 0, 22, .inl (upd (upd (upd (upd (upd (upd (upd (upd (upd (upd (upd (upd (upd (upd (upd (upd (upd (upd (upd (upd (upd (upd (upd (upd (upd (upd (upd (upd (upd (upd sA 0 0) 1 0) 2 0) 3 0) 4 0) 5 0) 6 0) 7 0) 8 0) 9 0) 10 0) 0 place) 1 1000) 2 meter) 4 (-1)) 7 (-1)) 9 (-1)) 11 0) 12 0) 13 0) 14 0) 15 0) 16 0) 17 0) 18 0) 19 0) 20 0) 21 0) 11 other) 12 1000))), (AM 3, .inl (cY 0, 22, .inl rd)), (AM 4, .inl (cY 0, 110, .inl kp)), (AM 5, .inl (cY 0, 8414, .inl td)), (AM 6, .inl (cY 0, 2, .inl wn)), (AM 13, .inl (cY 0, 4, .inl rw)), (AM 14, .inl (cY 0, 4, .inl br))] := hD1
  have hS := hS1
  clear hP1 hD1 hS1
  refine lv_aload_n hx hb dX8_lay_68 rfl (lv_at hl 2 rfl) ?_
  refine va_get (D := (dC, dI)) (ci := 8) (v := .ref (AM 2)) (C := RX8) (T := TX8) (N := 17) hx hb hts inw_X8_lay_X8 hown hK hP 0 rfl rfl 2 (by decide) (hts (.fieldLink RX8 13 "DuelFramesModel" "s" "[I") (List.mem_of_getElem? (i := 1) rfl)) (fun _ h9 => h9) rfl dX8_lay_69 ?_
  refine lv_iload hx hb dX8_lay_72 (lv_at hl 1 rfl) ?_
  refine lv_iconst (v := 2) hx hb dX8_lay_74 (by decide) ?_
  refine lv_iadd hx hb dX8_lay_75 ?_
  refine lv_topi (fun x_60 ex_60 => ?_)
  obtain rfl : x_60 = 13 := ex_60.trans (by decide)
  refine lv_iload hx hb dX8_lay_76 (lv_at hl 1 rfl) ?_
  refine lv_if_ne (tgt := 85) hx hb dX8_lay_78 (by decide) (fun c_61 => ?_) (fun c_61 => ?_)
  rotate_left
  · exact absurd c_61 (by decide)
  refine lv_iload hx hb dX8_lay_85 (lv_at hl 6 rfl) ?_
  refine va_iast hx hb hK hP hD hS 2 0 rfl rfl (vin rfl) dX8_lay_87 (fun H locs hP1 hD1 hS1 => ?_)
  clear hP hD hS
  have hP : va_P (dC, dI) vwCl [(m0, .inr (8, mdL AM g)), (AM 0, .inl (cY 0, 72, .inl tb)), (AM 2, .inl (cY 0, 22, .inl (upd (upd (upd (upd (upd (upd (upd (upd (upd (upd (upd (upd (upd (upd (upd (upd (upd (upd (upd (upd (upd (upd (upd (upd (upd (upd (upd (upd (upd (upd (upd sA 0 0) 1 0) 2 0) 3 0) 4 0) 5 0) 6 0) 7 0) 8 0) 9 0) 10 0) 0 place) 1 1000) 2 meter) 4 (-1)) 7 (-1)) 9 (-1)) 11 0) 12 0) 13 0) 14 0) 15 0) 16 0) 17 0) 18 0) 19 0) 20 0) 21 0) 11 other) 12 1000) 13 otherMeter))), (AM 3, .inl (cY 0, 22, .inl rd)), (AM 4, .inl (cY 0, 110, .inl kp)), (AM 5, .inl (cY 0, 8414, .inl td)), (AM 6, .inl (cY 0, 2, .inl wn)), (AM 13, .inl (cY 0, 4, .inl rw)), (AM 14, .inl (cY 0, 4, .inl br))] H := hP1
  have hD : va_D A [(m0, .inr (8, mdL AM g)), (AM 0, .inl (cY 0, 72, .inl tb)), (AM 2, .inl (cY 0, 22, .inl (upd (upd (upd (upd (upd (upd (upd (upd (upd (upd (upd (upd (upd (upd (upd (upd (upd (upd (upd (upd (upd (upd (upd (upd (upd (upd (upd (upd (upd (upd (upd sA 0 0) 1 0) 2 0) 3 0) 4 0) 5 0) 6 0) 7 0) 8 0) 9 0) 10 0) 0 place) 1 1000) 2 meter) 4 (-1)) 7 (-1)) 9 (-1)) 11 0) 12 0) 13 0) 14 0) 15 0) 16 0) 17 0) 18 0) 19 0) 20 0) 21 0) 11 other) 12 1000) 13 otherMeter))), (AM 3, .inl (cY 0, 22, .inl rd)), (AM 4, .inl (cY 0, 110, .inl kp)), (AM 5, .inl (cY 0, 8414, .inl td)), (AM 6, .inl (cY 0, 2, .inl wn)), (AM 13, .inl (cY 0, 4, .inl rw)), (AM 14, .inl (cY 0, 4, .inl br))] := hD1
  have hS := hS1
  clear hP1 hD1 hS1
  refine lv_aload_n hx hb dX8_lay_88 rfl (lv_at hl 2 rfl) ?_
  refine va_get (D := (dC, dI)) (ci := 8) (v := .ref (AM 2)) (C := RX8) (T := TX8) (N := 17) hx hb hts inw_X8_lay_X8 hown hK hP 0 rfl rfl 2 (by decide) (hts (.fieldLink RX8 13 "DuelFramesModel" "s" "[I") (List.mem_of_getElem? (i := 1) rfl)) (fun _ h9 => h9) rfl dX8_lay_89 ?_
  refine lv_iload hx hb dX8_lay_92 (lv_at hl 1 rfl) ?_
  refine lv_iconst (v := 4) hx hb dX8_lay_94 (by decide) ?_
  refine lv_iadd hx hb dX8_lay_95 ?_
  refine lv_topi (fun x_62 ex_62 => ?_)
  obtain rfl : x_62 = 15 := ex_62.trans (by decide)
  refine lv_iconst (v := (-1)) hx hb dX8_lay_96 (by decide) ?_
  refine va_iast hx hb hK hP hD hS 2 0 rfl rfl (vin rfl) dX8_lay_97 (fun H locs hP1 hD1 hS1 => ?_)
  clear hP hD hS
  have hP : va_P (dC, dI) vwCl [(m0, .inr (8, mdL AM g)), (AM 0, .inl (cY 0, 72, .inl tb)), (AM 2, .inl (cY 0, 22, .inl (upd (upd (upd (upd (upd (upd (upd (upd (upd (upd (upd (upd (upd (upd (upd (upd (upd (upd (upd (upd (upd (upd (upd (upd (upd (upd (upd (upd (upd (upd (upd (upd sA 0 0) 1 0) 2 0) 3 0) 4 0) 5 0) 6 0) 7 0) 8 0) 9 0) 10 0) 0 place) 1 1000) 2 meter) 4 (-1)) 7 (-1)) 9 (-1)) 11 0) 12 0) 13 0) 14 0) 15 0) 16 0) 17 0) 18 0) 19 0) 20 0) 21 0) 11 other) 12 1000) 13 otherMeter) 15 (-1)))), (AM 3, .inl (cY 0, 22, .inl rd)), (AM 4, .inl (cY 0, 110, .inl kp)), (AM 5, .inl (cY 0, 8414, .inl td)), (AM 6, .inl (cY 0, 2, .inl wn)), (AM 13, .inl (cY 0, 4, .inl rw)), (AM 14, .inl (cY 0, 4, .inl br))] H := hP1
  have hD : va_D A [(m0, .inr (8, mdL AM g)), (AM 0, .inl (cY 0, 72, .inl tb)), (AM 2, .inl (cY 0, 22, .inl (upd (upd (upd (upd (upd (upd (upd (upd (upd (upd (upd (upd (upd (upd (upd (upd (upd (upd (upd (upd (upd (upd (upd (upd (upd (upd (upd (upd (upd (upd (upd (upd sA 0 0) 1 0) 2 0) 3 0) 4 0) 5 0) 6 0) 7 0) 8 0) 9 0) 10 0) 0 place) 1 1000) 2 meter) 4 (-1)) 7 (-1)) 9 (-1)) 11 0) 12 0) 13 0) 14 0) 15 0) 16 0) 17 0) 18 0) 19 0) 20 0) 21 0) 11 other) 12 1000) 13 otherMeter) 15 (-1)))), (AM 3, .inl (cY 0, 22, .inl rd)), (AM 4, .inl (cY 0, 110, .inl kp)), (AM 5, .inl (cY 0, 8414, .inl td)), (AM 6, .inl (cY 0, 2, .inl wn)), (AM 13, .inl (cY 0, 4, .inl rw)), (AM 14, .inl (cY 0, 4, .inl br))] := hD1
  have hS := hS1
  clear hP1 hD1 hS1
  refine lv_aload_n hx hb dX8_lay_98 rfl (lv_at hl 2 rfl) ?_
  refine va_get (D := (dC, dI)) (ci := 8) (v := .ref (AM 2)) (C := RX8) (T := TX8) (N := 17) hx hb hts inw_X8_lay_X8 hown hK hP 0 rfl rfl 2 (by decide) (hts (.fieldLink RX8 13 "DuelFramesModel" "s" "[I") (List.mem_of_getElem? (i := 1) rfl)) (fun _ h9 => h9) rfl dX8_lay_99 ?_
  refine lv_iload hx hb dX8_lay_102 (lv_at hl 1 rfl) ?_
  refine lv_bipush (v := 7) hx hb dX8_lay_104 (by decide) ?_
  refine lv_iadd hx hb dX8_lay_106 ?_
  refine lv_topi (fun x_63 ex_63 => ?_)
  obtain rfl : x_63 = 18 := ex_63.trans (by decide)
  refine lv_iconst (v := (-1)) hx hb dX8_lay_107 (by decide) ?_
  refine va_iast hx hb hK hP hD hS 2 0 rfl rfl (vin rfl) dX8_lay_108 (fun H locs hP1 hD1 hS1 => ?_)
  clear hP hD hS
  have hP : va_P (dC, dI) vwCl [(m0, .inr (8, mdL AM g)), (AM 0, .inl (cY 0, 72, .inl tb)), (AM 2, .inl (cY 0, 22, .inl (upd (upd (upd (upd (upd (upd (upd (upd (upd (upd (upd (upd (upd (upd (upd (upd (upd (upd (upd (upd (upd (upd (upd (upd (upd (upd (upd (upd (upd (upd (upd (upd (upd sA 0 0) 1 0) 2 0) 3 0) 4 0) 5 0) 6 0) 7 0) 8 0) 9 0) 10 0) 0 place) 1 1000) 2 meter) 4 (-1)) 7 (-1)) 9 (-1)) 11 0) 12 0) 13 0) 14 0) 15 0) 16 0) 17 0) 18 0) 19 0) 20 0) 21 0) 11 other) 12 1000) 13 otherMeter) 15 (-1)) 18 (-1)))), (AM 3, .inl (cY 0, 22, .inl rd)), (AM 4, .inl (cY 0, 110, .inl kp)), (AM 5, .inl (cY 0, 8414, .inl td)), (AM 6, .inl (cY 0, 2, .inl wn)), (AM 13, .inl (cY 0, 4, .inl rw)), (AM 14, .inl (cY 0, 4, .inl br))] H := hP1
  have hD : va_D A [(m0, .inr (8, mdL AM g)), (AM 0, .inl (cY 0, 72, .inl tb)), (AM 2, .inl (cY 0, 22, .inl (upd (upd (upd (upd (upd (upd (upd (upd (upd (upd (upd (upd (upd (upd (upd (upd (upd (upd (upd (upd (upd (upd (upd (upd (upd (upd (upd (upd (upd (upd (upd (upd (upd sA 0 0) 1 0) 2 0) 3 0) 4 0) 5 0) 6 0) 7 0) 8 0) 9 0) 10 0) 0 place) 1 1000) 2 meter) 4 (-1)) 7 (-1)) 9 (-1)) 11 0) 12 0) 13 0) 14 0) 15 0) 16 0) 17 0) 18 0) 19 0) 20 0) 21 0) 11 other) 12 1000) 13 otherMeter) 15 (-1)) 18 (-1)))), (AM 3, .inl (cY 0, 22, .inl rd)), (AM 4, .inl (cY 0, 110, .inl kp)), (AM 5, .inl (cY 0, 8414, .inl td)), (AM 6, .inl (cY 0, 2, .inl wn)), (AM 13, .inl (cY 0, 4, .inl rw)), (AM 14, .inl (cY 0, 4, .inl br))] := hD1
  have hS := hS1
  clear hP1 hD1 hS1
  refine lv_aload_n hx hb dX8_lay_109 rfl (lv_at hl 2 rfl) ?_
  refine va_get (D := (dC, dI)) (ci := 8) (v := .ref (AM 2)) (C := RX8) (T := TX8) (N := 17) hx hb hts inw_X8_lay_X8 hown hK hP 0 rfl rfl 2 (by decide) (hts (.fieldLink RX8 13 "DuelFramesModel" "s" "[I") (List.mem_of_getElem? (i := 1) rfl)) (fun _ h9 => h9) rfl dX8_lay_110 ?_
  refine lv_iload hx hb dX8_lay_113 (lv_at hl 1 rfl) ?_
  refine lv_bipush (v := 9) hx hb dX8_lay_115 (by decide) ?_
  refine lv_iadd hx hb dX8_lay_117 ?_
  refine lv_topi (fun x_64 ex_64 => ?_)
  obtain rfl : x_64 = 20 := ex_64.trans (by decide)
  refine lv_iconst (v := (-1)) hx hb dX8_lay_118 (by decide) ?_
  refine va_iast hx hb hK hP hD hS 2 0 rfl rfl (vin rfl) dX8_lay_119 (fun H locs hP1 hD1 hS1 => ?_)
  clear hP hD hS
  have hP : va_P (dC, dI) vwCl [(m0, .inr (8, mdL AM g)), (AM 0, .inl (cY 0, 72, .inl tb)), (AM 2, .inl (cY 0, 22, .inl (upd (upd (upd (upd (upd (upd (upd (upd (upd (upd (upd (upd (upd (upd (upd (upd (upd (upd (upd (upd (upd (upd (upd (upd (upd (upd (upd (upd (upd (upd (upd (upd (upd (upd sA 0 0) 1 0) 2 0) 3 0) 4 0) 5 0) 6 0) 7 0) 8 0) 9 0) 10 0) 0 place) 1 1000) 2 meter) 4 (-1)) 7 (-1)) 9 (-1)) 11 0) 12 0) 13 0) 14 0) 15 0) 16 0) 17 0) 18 0) 19 0) 20 0) 21 0) 11 other) 12 1000) 13 otherMeter) 15 (-1)) 18 (-1)) 20 (-1)))), (AM 3, .inl (cY 0, 22, .inl rd)), (AM 4, .inl (cY 0, 110, .inl kp)), (AM 5, .inl (cY 0, 8414, .inl td)), (AM 6, .inl (cY 0, 2, .inl wn)), (AM 13, .inl (cY 0, 4, .inl rw)), (AM 14, .inl (cY 0, 4, .inl br))] H := hP1
  have hD : va_D A [(m0, .inr (8, mdL AM g)), (AM 0, .inl (cY 0, 72, .inl tb)), (AM 2, .inl (cY 0, 22, .inl (upd (upd (upd (upd (upd (upd (upd (upd (upd (upd (upd (upd (upd (upd (upd (upd (upd (upd (upd (upd (upd (upd (upd (upd (upd (upd (upd (upd (upd (upd (upd (upd (upd (upd sA 0 0) 1 0) 2 0) 3 0) 4 0) 5 0) 6 0) 7 0) 8 0) 9 0) 10 0) 0 place) 1 1000) 2 meter) 4 (-1)) 7 (-1)) 9 (-1)) 11 0) 12 0) 13 0) 14 0) 15 0) 16 0) 17 0) 18 0) 19 0) 20 0) 21 0) 11 other) 12 1000) 13 otherMeter) 15 (-1)) 18 (-1)) 20 (-1)))), (AM 3, .inl (cY 0, 22, .inl rd)), (AM 4, .inl (cY 0, 110, .inl kp)), (AM 5, .inl (cY 0, 8414, .inl td)), (AM 6, .inl (cY 0, 2, .inl wn)), (AM 13, .inl (cY 0, 4, .inl rw)), (AM 14, .inl (cY 0, 4, .inl br))] := hD1
  have hS := hS1
  clear hP1 hD1 hS1
  refine lv_iinc (v := 22) (lv' := [(5, .int 22), (6, .int 11), (0, .ref m0), (1, .int place), (2, .int other), (3, .int meter), (4, .int otherMeter)]) hx hb dX8_lay_120 hl (k := 1) rfl (by first | rfl | decide) (by decide) rfl (fun ls hl => ?_)
  refine lv_goto (tgt := 3) hx hb dX8_lay_123 (by decide) ?_
  refine lv_iload hx hb dX8_lay_3 (lv_at hl 0 rfl) ?_
  refine lv_bipush (v := 11) hx hb dX8_lay_5 (by decide) ?_
  refine lv_icmp_gt (tgt := 126) hx hb dX8_lay_7 (by decide) (fun c_65 => ?_) (fun c_65 => ?_)
  rotate_left
  · exact absurd (by decide) c_65
  have eo_66 : (X8_lay_w2 sA meter other otherMeter place) = (upd (upd (upd (upd (upd (upd (upd (upd (upd (upd (upd (upd (upd (upd (upd (upd (upd (upd (upd (upd (upd (upd (upd (upd (upd (upd (upd (upd (upd (upd (upd (upd (upd (upd sA 0 0) 1 0) 2 0) 3 0) 4 0) 5 0) 6 0) 7 0) 8 0) 9 0) 10 0) 0 place) 1 1000) 2 meter) 4 (-1)) 7 (-1)) 9 (-1)) 11 0) 12 0) 13 0) 14 0) 15 0) 16 0) 17 0) 18 0) 19 0) 20 0) 21 0) 11 other) 12 1000) 13 otherMeter) 15 (-1)) 18 (-1)) 20 (-1)) := by rw [X8_lay_w2]
  have hP9 : va_P (dC, dI) vwCl [(m0, .inr (8, mdL AM g)), (AM 0, .inl (cY 0, 72, .inl tb)), (AM 2, .inl (cY 0, 22, .inl (X8_lay_w2 sA meter other otherMeter place))), (AM 3, .inl (cY 0, 22, .inl rd)), (AM 4, .inl (cY 0, 110, .inl kp)), (AM 5, .inl (cY 0, 8414, .inl td)), (AM 6, .inl (cY 0, 2, .inl wn)), (AM 13, .inl (cY 0, 4, .inl rw)), (AM 14, .inl (cY 0, 4, .inl br))] H := by simp only [eo_66]; exact hP
  have hD9 : va_D A [(m0, .inr (8, mdL AM g)), (AM 0, .inl (cY 0, 72, .inl tb)), (AM 2, .inl (cY 0, 22, .inl (X8_lay_w2 sA meter other otherMeter place))), (AM 3, .inl (cY 0, 22, .inl rd)), (AM 4, .inl (cY 0, 110, .inl kp)), (AM 5, .inl (cY 0, 8414, .inl td)), (AM 6, .inl (cY 0, 2, .inl wn)), (AM 13, .inl (cY 0, 4, .inl rw)), (AM 14, .inl (cY 0, 4, .inl br))] := by simp only [eo_66]; exact hD
  exact W.vret hx hb hr (fun t ht hW => ⟨⟨(), rfl, trivial, wPost_of hP9 hD9 ht⟩, hS.F ht⟩) hS.2.2 dX8_lay_126
theorem inw_X8_load_X8 : ∀ w ∈ u_ws RX8 TX8 17, w ∈ wsX8_load := fun _ h => List.mem_cons_of_mem _ (List.mem_append_right _ h)
def X8_load_w2 (sA : Nat → Int32) (rd : Nat → Int32) : Nat → Int32 := (upd (upd (upd (upd (upd (upd (upd (upd (upd (upd (upd (upd (upd (upd (upd (upd (upd (upd (upd (upd (upd (upd sA 0 (rd 0)) 1 (rd 1)) 2 (rd 2)) 3 (rd 3)) 4 (rd 4)) 5 (rd 5)) 6 (rd 6)) 7 (rd 7)) 8 (rd 8)) 9 (rd 9)) 10 (rd 10)) 11 (rd 11)) 12 (rd 12)) 13 (rd 13)) 14 (rd 14)) 15 (rd 15)) 16 (rd 16)) 17 (rd 17)) 18 (rd 18)) 19 (rd 19)) 20 (rd 20)) 21 (rd 21))
set_option maxHeartbeats 4000000 in
set_option maxRecDepth 100000 in
theorem c_X8_load (l : Launch) (dC : Nat → ClassId) (dI : Nat → Nat → Nat) (cY : Nat → ClassId) (m0 : Nat) (AM : Nat → Nat) (g : Nat → Int32) (tb : Nat → Int32) (sA : Nat → Int32) (rd : Nat → Int32) (kp : Nat → Int32) (td : Nat → Int32) (wn : Nat → Int32) (rw : Nat → Int32) (br : Nat → Int32)  (sz : Nat) : Met l yX8_load wsX8_load ({ frames := 0, cells := 0, slots := 0, locals := 0 } : Room) (va_Pc [.ref m0] (wPre (dC, dI) (tyL cY) [(m0, .inr (8, mdL AM g)), (AM 0, .inl (cY 0, 72, .inl tb)), (AM 2, .inl (cY 0, 22, .inl sA)), (AM 3, .inl (cY 0, 22, .inl rd)), (AM 4, .inl (cY 0, 110, .inl kp)), (AM 5, .inl (cY 0, 8414, .inl td)), (AM 6, .inl (cY 0, 2, .inl wn)), (AM 13, .inl (cY 0, 4, .inl rw)), (AM 14, .inl (cY 0, 4, .inl br))] sz)) (va_Qv (fun _ : Unit => True) (wPost (dC, dI) [(m0, .inr (8, mdL AM g)), (AM 0, .inl (cY 0, 72, .inl tb)), (AM 2, .inl (cY 0, 22, .inl (X8_load_w2 sA rd))), (AM 3, .inl (cY 0, 22, .inl rd)), (AM 4, .inl (cY 0, 110, .inl kp)), (AM 5, .inl (cY 0, 8414, .inl td)), (AM 6, .inl (cY 0, 2, .inl wn)), (AM 13, .inl (cY 0, 4, .inl rw)), (AM 14, .inl (cY 0, 4, .inl br))] (va_A [(m0, .inr (8, mdL AM g)), (AM 0, .inl (cY 0, 72, .inl tb)), (AM 2, .inl (cY 0, 22, .inl sA)), (AM 3, .inl (cY 0, 22, .inl rd)), (AM 4, .inl (cY 0, 110, .inl kp)), (AM 5, .inl (cY 0, 8414, .inl td)), (AM 6, .inl (cY 0, 2, .inl wn)), (AM 13, .inl (cY 0, 4, .inl rw)), (AM 14, .inl (cY 0, 4, .inl br))] sz)) (va_A [(m0, .inr (8, mdL AM g)), (AM 0, .inl (cY 0, 72, .inl tb)), (AM 2, .inl (cY 0, 22, .inl sA)), (AM 3, .inl (cY 0, 22, .inl rd)), (AM 4, .inl (cY 0, 110, .inl kp)), (AM 5, .inl (cY 0, 8414, .inl td)), (AM 6, .inl (cY 0, 2, .inl wn)), (AM 13, .inl (cY 0, 4, .inl rw)), (AM 14, .inl (cY 0, 4, .inl br))] sz)) 0 0 (va_A [(m0, .inr (8, mdL AM g)), (AM 0, .inl (cY 0, 72, .inl tb)), (AM 2, .inl (cY 0, 22, .inl sA)), (AM 3, .inl (cY 0, 22, .inl rd)), (AM 4, .inl (cY 0, 110, .inl kp)), (AM 5, .inl (cY 0, 8414, .inl td)), (AM 6, .inl (cY 0, 2, .inl wn)), (AM 13, .inl (cY 0, 4, .inl rw)), (AM 14, .inl (cY 0, 4, .inl br))] sz) := by
  refine Met.ofW (cc := cX8_load) (maxL := 2) (ret := none) (by decide) rfl ?_
  intro p e s m args below meth c s₁ B hml hv
  obtain ⟨rfl, hsz, hP, hK, hN, hD0⟩ := hv
  have hx := B.exec
  have hb := B.bytes
  have hr := B.returns
  have hts := atoms_spec (ws := wsX8_load) B.pre
  have hown : s.vm.findClass RX8 = some m.cls := findClass_of_methodNamed B.named
  have hlocks := B.notSynchronized
  subst hsz
  have hD := hD0.self (sz := s.heap.size)
  generalize hAe : va_A [(m0, .inr (8, mdL AM g)), (AM 0, .inl (cY 0, 72, .inl tb)), (AM 2, .inl (cY 0, 22, .inl sA)), (AM 3, .inl (cY 0, 22, .inl rd)), (AM 4, .inl (cY 0, 110, .inl kp)), (AM 5, .inl (cY 0, 8414, .inl td)), (AM 6, .inl (cY 0, 2, .inl wn)), (AM 13, .inl (cY 0, 4, .inl rw)), (AM 14, .inl (cY 0, 4, .inl br))] s.heap.size = A at hD ⊢
  have hA : ∀ q : Nat, s.heap.size ≤ q → A q := fun q h => by rw [← hAe]; exact Or.inr h
  have hS : va_S A s.heap s.heap [] := va_S.rf
  have hP : va_P (dC, dI) vwCl [(m0, .inr (8, mdL AM g)), (AM 0, .inl (cY 0, 72, .inl tb)), (AM 2, .inl (cY 0, 22, .inl sA)), (AM 3, .inl (cY 0, 22, .inl rd)), (AM 4, .inl (cY 0, 110, .inl kp)), (AM 5, .inl (cY 0, 8414, .inl td)), (AM 6, .inl (cY 0, 2, .inl wn)), (AM 13, .inl (cY 0, 4, .inl rw)), (AM 14, .inl (cY 0, 4, .inl br))] s.heap := hP
  have hl := lv_entry ([.ref m0]) (n := 2) (Nat.le_of_ble_eq_true rfl)
  rw [lg_entry_eq]
  generalize (lg_sl ([.ref m0]) ++ List.replicate (2 - (lg_sl ([.ref m0])).length) Slot.unset).toArray = ls at hl ⊢
  have hl : lv_has ls 2 [(0, .ref m0)] := hl
  refine lv_iconst (v := 0) hx hb dX8_load_0 (by decide) ?_
  refine lv_istore_n (lv' := [(1, .int 0), (0, .ref m0)]) hx hb dX8_load_1 rfl hl (by decide) rfl (fun ls hl => ?_)
  refine lv_iload_n hx hb dX8_load_2 rfl (lv_at hl 0 rfl) ?_
  refine lv_bipush (v := 22) hx hb dX8_load_3 (by decide) ?_
  refine lv_icmp_ge (tgt := 26) hx hb dX8_load_5 (by decide) (fun c_1 => ?_) (fun c_1 => ?_)
  · exact absurd c_1 (by decide)
  refine lv_aload_n hx hb dX8_load_8 rfl (lv_at hl 1 rfl) ?_
  refine va_get (D := (dC, dI)) (ci := 8) (v := .ref (AM 2)) (C := RX8) (T := TX8) (N := 17) hx hb hts inw_X8_load_X8 hown hK hP 0 rfl rfl 2 (by decide) (hts (.fieldLink RX8 13 "DuelFramesModel" "s" "[I") (List.mem_of_getElem? (i := 1) rfl)) (fun _ h9 => h9) rfl dX8_load_9 ?_
  refine lv_iload_n hx hb dX8_load_12 rfl (lv_at hl 0 rfl) ?_
  refine lv_aload_n hx hb dX8_load_13 rfl (lv_at hl 1 rfl) ?_
  refine va_get (D := (dC, dI)) (ci := 8) (v := .ref (AM 3)) (C := RX8) (T := TX8) (N := 17) hx hb hts inw_X8_load_X8 hown hK hP 0 rfl rfl 3 (by decide) (hts (.fieldLink RX8 16 "DuelFramesModel" "round" "[I") (List.mem_of_getElem? (i := 2) rfl)) (fun _ h9 => h9) rfl dX8_load_14 ?_
  refine lv_iload_n hx hb dX8_load_17 rfl (lv_at hl 0 rfl) ?_
  refine va_iald hx hb hK hP 3 0 rfl rfl (vin rfl) dX8_load_18 ?_
  refine lv_topi (fun x_2 ex_2 => ?_)
  obtain rfl : x_2 = (rd 0) := ex_2
  refine va_iast hx hb hK hP hD hS 2 0 rfl rfl (vin rfl) dX8_load_19 (fun H locs hP1 hD1 hS1 => ?_)
  clear hP hD hS
  have hP : va_P (dC, dI) vwCl [(m0, .inr (8, mdL AM g)), (AM 0, .inl (cY 0, 72, .inl tb)), (AM 2, .inl (cY 0, 22, .inl (upd sA 0 (rd 0)))), (AM 3, .inl (cY 0, 22, .inl rd)), (AM 4, .inl (cY 0, 110, .inl kp)), (AM 5, .inl (cY 0, 8414, .inl td)), (AM 6, .inl (cY 0, 2, .inl wn)), (AM 13, .inl (cY 0, 4, .inl rw)), (AM 14, .inl (cY 0, 4, .inl br))] H := hP1
  have hD : va_D A [(m0, .inr (8, mdL AM g)), (AM 0, .inl (cY 0, 72, .inl tb)), (AM 2, .inl (cY 0, 22, .inl (upd sA 0 (rd 0)))), (AM 3, .inl (cY 0, 22, .inl rd)), (AM 4, .inl (cY 0, 110, .inl kp)), (AM 5, .inl (cY 0, 8414, .inl td)), (AM 6, .inl (cY 0, 2, .inl wn)), (AM 13, .inl (cY 0, 4, .inl rw)), (AM 14, .inl (cY 0, 4, .inl br))] := hD1
  have hS := hS1
  clear hP1 hD1 hS1
  refine lv_iinc (v := 1) (lv' := [(1, .int 1), (0, .ref m0)]) hx hb dX8_load_20 hl (k := 0) rfl (by first | rfl | decide) (by decide) rfl (fun ls hl => ?_)
  refine lv_goto (tgt := 2) hx hb dX8_load_23 (by decide) ?_
  refine lv_iload_n hx hb dX8_load_2 rfl (lv_at hl 0 rfl) ?_
  refine lv_bipush (v := 22) hx hb dX8_load_3 (by decide) ?_
  refine lv_icmp_ge (tgt := 26) hx hb dX8_load_5 (by decide) (fun c_3 => ?_) (fun c_3 => ?_)
  · exact absurd c_3 (by decide)
  refine lv_aload_n hx hb dX8_load_8 rfl (lv_at hl 1 rfl) ?_
  refine va_get (D := (dC, dI)) (ci := 8) (v := .ref (AM 2)) (C := RX8) (T := TX8) (N := 17) hx hb hts inw_X8_load_X8 hown hK hP 0 rfl rfl 2 (by decide) (hts (.fieldLink RX8 13 "DuelFramesModel" "s" "[I") (List.mem_of_getElem? (i := 1) rfl)) (fun _ h9 => h9) rfl dX8_load_9 ?_
  refine lv_iload_n hx hb dX8_load_12 rfl (lv_at hl 0 rfl) ?_
  refine lv_aload_n hx hb dX8_load_13 rfl (lv_at hl 1 rfl) ?_
  refine va_get (D := (dC, dI)) (ci := 8) (v := .ref (AM 3)) (C := RX8) (T := TX8) (N := 17) hx hb hts inw_X8_load_X8 hown hK hP 0 rfl rfl 3 (by decide) (hts (.fieldLink RX8 16 "DuelFramesModel" "round" "[I") (List.mem_of_getElem? (i := 2) rfl)) (fun _ h9 => h9) rfl dX8_load_14 ?_
  refine lv_iload_n hx hb dX8_load_17 rfl (lv_at hl 0 rfl) ?_
  refine va_iald hx hb hK hP 3 0 rfl rfl (vin rfl) dX8_load_18 ?_
  refine lv_topi (fun x_4 ex_4 => ?_)
  obtain rfl : x_4 = (rd 1) := ex_4
  refine va_iast hx hb hK hP hD hS 2 0 rfl rfl (vin rfl) dX8_load_19 (fun H locs hP1 hD1 hS1 => ?_)
  clear hP hD hS
  have hP : va_P (dC, dI) vwCl [(m0, .inr (8, mdL AM g)), (AM 0, .inl (cY 0, 72, .inl tb)), (AM 2, .inl (cY 0, 22, .inl (upd (upd sA 0 (rd 0)) 1 (rd 1)))), (AM 3, .inl (cY 0, 22, .inl rd)), (AM 4, .inl (cY 0, 110, .inl kp)), (AM 5, .inl (cY 0, 8414, .inl td)), (AM 6, .inl (cY 0, 2, .inl wn)), (AM 13, .inl (cY 0, 4, .inl rw)), (AM 14, .inl (cY 0, 4, .inl br))] H := hP1
  have hD : va_D A [(m0, .inr (8, mdL AM g)), (AM 0, .inl (cY 0, 72, .inl tb)), (AM 2, .inl (cY 0, 22, .inl (upd (upd sA 0 (rd 0)) 1 (rd 1)))), (AM 3, .inl (cY 0, 22, .inl rd)), (AM 4, .inl (cY 0, 110, .inl kp)), (AM 5, .inl (cY 0, 8414, .inl td)), (AM 6, .inl (cY 0, 2, .inl wn)), (AM 13, .inl (cY 0, 4, .inl rw)), (AM 14, .inl (cY 0, 4, .inl br))] := hD1
  have hS := hS1
  clear hP1 hD1 hS1
  refine lv_iinc (v := 2) (lv' := [(1, .int 2), (0, .ref m0)]) hx hb dX8_load_20 hl (k := 0) rfl (by first | rfl | decide) (by decide) rfl (fun ls hl => ?_)
  refine lv_goto (tgt := 2) hx hb dX8_load_23 (by decide) ?_
  refine lv_iload_n hx hb dX8_load_2 rfl (lv_at hl 0 rfl) ?_
  refine lv_bipush (v := 22) hx hb dX8_load_3 (by decide) ?_
  refine lv_icmp_ge (tgt := 26) hx hb dX8_load_5 (by decide) (fun c_5 => ?_) (fun c_5 => ?_)
  · exact absurd c_5 (by decide)
  refine lv_aload_n hx hb dX8_load_8 rfl (lv_at hl 1 rfl) ?_
  refine va_get (D := (dC, dI)) (ci := 8) (v := .ref (AM 2)) (C := RX8) (T := TX8) (N := 17) hx hb hts inw_X8_load_X8 hown hK hP 0 rfl rfl 2 (by decide) (hts (.fieldLink RX8 13 "DuelFramesModel" "s" "[I") (List.mem_of_getElem? (i := 1) rfl)) (fun _ h9 => h9) rfl dX8_load_9 ?_
  refine lv_iload_n hx hb dX8_load_12 rfl (lv_at hl 0 rfl) ?_
  refine lv_aload_n hx hb dX8_load_13 rfl (lv_at hl 1 rfl) ?_
  refine va_get (D := (dC, dI)) (ci := 8) (v := .ref (AM 3)) (C := RX8) (T := TX8) (N := 17) hx hb hts inw_X8_load_X8 hown hK hP 0 rfl rfl 3 (by decide) (hts (.fieldLink RX8 16 "DuelFramesModel" "round" "[I") (List.mem_of_getElem? (i := 2) rfl)) (fun _ h9 => h9) rfl dX8_load_14 ?_
  refine lv_iload_n hx hb dX8_load_17 rfl (lv_at hl 0 rfl) ?_
  refine va_iald hx hb hK hP 3 0 rfl rfl (vin rfl) dX8_load_18 ?_
  refine lv_topi (fun x_6 ex_6 => ?_)
  obtain rfl : x_6 = (rd 2) := ex_6
  refine va_iast hx hb hK hP hD hS 2 0 rfl rfl (vin rfl) dX8_load_19 (fun H locs hP1 hD1 hS1 => ?_)
  clear hP hD hS
  have hP : va_P (dC, dI) vwCl [(m0, .inr (8, mdL AM g)), (AM 0, .inl (cY 0, 72, .inl tb)), (AM 2, .inl (cY 0, 22, .inl (upd (upd (upd sA 0 (rd 0)) 1 (rd 1)) 2 (rd 2)))), (AM 3, .inl (cY 0, 22, .inl rd)), (AM 4, .inl (cY 0, 110, .inl kp)), (AM 5, .inl (cY 0, 8414, .inl td)), (AM 6, .inl (cY 0, 2, .inl wn)), (AM 13, .inl (cY 0, 4, .inl rw)), (AM 14, .inl (cY 0, 4, .inl br))] H := hP1
  have hD : va_D A [(m0, .inr (8, mdL AM g)), (AM 0, .inl (cY 0, 72, .inl tb)), (AM 2, .inl (cY 0, 22, .inl (upd (upd (upd sA 0 (rd 0)) 1 (rd 1)) 2 (rd 2)))), (AM 3, .inl (cY 0, 22, .inl rd)), (AM 4, .inl (cY 0, 110, .inl kp)), (AM 5, .inl (cY 0, 8414, .inl td)), (AM 6, .inl (cY 0, 2, .inl wn)), (AM 13, .inl (cY 0, 4, .inl rw)), (AM 14, .inl (cY 0, 4, .inl br))] := hD1
  have hS := hS1
  clear hP1 hD1 hS1
  refine lv_iinc (v := 3) (lv' := [(1, .int 3), (0, .ref m0)]) hx hb dX8_load_20 hl (k := 0) rfl (by first | rfl | decide) (by decide) rfl (fun ls hl => ?_)
  refine lv_goto (tgt := 2) hx hb dX8_load_23 (by decide) ?_
  refine lv_iload_n hx hb dX8_load_2 rfl (lv_at hl 0 rfl) ?_
  refine lv_bipush (v := 22) hx hb dX8_load_3 (by decide) ?_
  refine lv_icmp_ge (tgt := 26) hx hb dX8_load_5 (by decide) (fun c_7 => ?_) (fun c_7 => ?_)
  · exact absurd c_7 (by decide)
  refine lv_aload_n hx hb dX8_load_8 rfl (lv_at hl 1 rfl) ?_
  refine va_get (D := (dC, dI)) (ci := 8) (v := .ref (AM 2)) (C := RX8) (T := TX8) (N := 17) hx hb hts inw_X8_load_X8 hown hK hP 0 rfl rfl 2 (by decide) (hts (.fieldLink RX8 13 "DuelFramesModel" "s" "[I") (List.mem_of_getElem? (i := 1) rfl)) (fun _ h9 => h9) rfl dX8_load_9 ?_
  refine lv_iload_n hx hb dX8_load_12 rfl (lv_at hl 0 rfl) ?_
  refine lv_aload_n hx hb dX8_load_13 rfl (lv_at hl 1 rfl) ?_
  refine va_get (D := (dC, dI)) (ci := 8) (v := .ref (AM 3)) (C := RX8) (T := TX8) (N := 17) hx hb hts inw_X8_load_X8 hown hK hP 0 rfl rfl 3 (by decide) (hts (.fieldLink RX8 16 "DuelFramesModel" "round" "[I") (List.mem_of_getElem? (i := 2) rfl)) (fun _ h9 => h9) rfl dX8_load_14 ?_
  refine lv_iload_n hx hb dX8_load_17 rfl (lv_at hl 0 rfl) ?_
  refine va_iald hx hb hK hP 3 0 rfl rfl (vin rfl) dX8_load_18 ?_
  refine lv_topi (fun x_8 ex_8 => ?_)
  obtain rfl : x_8 = (rd 3) := ex_8
  refine va_iast hx hb hK hP hD hS 2 0 rfl rfl (vin rfl) dX8_load_19 (fun H locs hP1 hD1 hS1 => ?_)
  clear hP hD hS
  have hP : va_P (dC, dI) vwCl [(m0, .inr (8, mdL AM g)), (AM 0, .inl (cY 0, 72, .inl tb)), (AM 2, .inl (cY 0, 22, .inl (upd (upd (upd (upd sA 0 (rd 0)) 1 (rd 1)) 2 (rd 2)) 3 (rd 3)))), (AM 3, .inl (cY 0, 22, .inl rd)), (AM 4, .inl (cY 0, 110, .inl kp)), (AM 5, .inl (cY 0, 8414, .inl td)), (AM 6, .inl (cY 0, 2, .inl wn)), (AM 13, .inl (cY 0, 4, .inl rw)), (AM 14, .inl (cY 0, 4, .inl br))] H := hP1
  have hD : va_D A [(m0, .inr (8, mdL AM g)), (AM 0, .inl (cY 0, 72, .inl tb)), (AM 2, .inl (cY 0, 22, .inl (upd (upd (upd (upd sA 0 (rd 0)) 1 (rd 1)) 2 (rd 2)) 3 (rd 3)))), (AM 3, .inl (cY 0, 22, .inl rd)), (AM 4, .inl (cY 0, 110, .inl kp)), (AM 5, .inl (cY 0, 8414, .inl td)), (AM 6, .inl (cY 0, 2, .inl wn)), (AM 13, .inl (cY 0, 4, .inl rw)), (AM 14, .inl (cY 0, 4, .inl br))] := hD1
  have hS := hS1
  clear hP1 hD1 hS1
  refine lv_iinc (v := 4) (lv' := [(1, .int 4), (0, .ref m0)]) hx hb dX8_load_20 hl (k := 0) rfl (by first | rfl | decide) (by decide) rfl (fun ls hl => ?_)
  refine lv_goto (tgt := 2) hx hb dX8_load_23 (by decide) ?_
  refine lv_iload_n hx hb dX8_load_2 rfl (lv_at hl 0 rfl) ?_
  refine lv_bipush (v := 22) hx hb dX8_load_3 (by decide) ?_
  refine lv_icmp_ge (tgt := 26) hx hb dX8_load_5 (by decide) (fun c_9 => ?_) (fun c_9 => ?_)
  · exact absurd c_9 (by decide)
  refine lv_aload_n hx hb dX8_load_8 rfl (lv_at hl 1 rfl) ?_
  refine va_get (D := (dC, dI)) (ci := 8) (v := .ref (AM 2)) (C := RX8) (T := TX8) (N := 17) hx hb hts inw_X8_load_X8 hown hK hP 0 rfl rfl 2 (by decide) (hts (.fieldLink RX8 13 "DuelFramesModel" "s" "[I") (List.mem_of_getElem? (i := 1) rfl)) (fun _ h9 => h9) rfl dX8_load_9 ?_
  refine lv_iload_n hx hb dX8_load_12 rfl (lv_at hl 0 rfl) ?_
  refine lv_aload_n hx hb dX8_load_13 rfl (lv_at hl 1 rfl) ?_
  refine va_get (D := (dC, dI)) (ci := 8) (v := .ref (AM 3)) (C := RX8) (T := TX8) (N := 17) hx hb hts inw_X8_load_X8 hown hK hP 0 rfl rfl 3 (by decide) (hts (.fieldLink RX8 16 "DuelFramesModel" "round" "[I") (List.mem_of_getElem? (i := 2) rfl)) (fun _ h9 => h9) rfl dX8_load_14 ?_
  refine lv_iload_n hx hb dX8_load_17 rfl (lv_at hl 0 rfl) ?_
  refine va_iald hx hb hK hP 3 0 rfl rfl (vin rfl) dX8_load_18 ?_
  refine lv_topi (fun x_10 ex_10 => ?_)
  obtain rfl : x_10 = (rd 4) := ex_10
  refine va_iast hx hb hK hP hD hS 2 0 rfl rfl (vin rfl) dX8_load_19 (fun H locs hP1 hD1 hS1 => ?_)
  clear hP hD hS
  have hP : va_P (dC, dI) vwCl [(m0, .inr (8, mdL AM g)), (AM 0, .inl (cY 0, 72, .inl tb)), (AM 2, .inl (cY 0, 22, .inl (upd (upd (upd (upd (upd sA 0 (rd 0)) 1 (rd 1)) 2 (rd 2)) 3 (rd 3)) 4 (rd 4)))), (AM 3, .inl (cY 0, 22, .inl rd)), (AM 4, .inl (cY 0, 110, .inl kp)), (AM 5, .inl (cY 0, 8414, .inl td)), (AM 6, .inl (cY 0, 2, .inl wn)), (AM 13, .inl (cY 0, 4, .inl rw)), (AM 14, .inl (cY 0, 4, .inl br))] H := hP1
  have hD : va_D A [(m0, .inr (8, mdL AM g)), (AM 0, .inl (cY 0, 72, .inl tb)), (AM 2, .inl (cY 0, 22, .inl (upd (upd (upd (upd (upd sA 0 (rd 0)) 1 (rd 1)) 2 (rd 2)) 3 (rd 3)) 4 (rd 4)))), (AM 3, .inl (cY 0, 22, .inl rd)), (AM 4, .inl (cY 0, 110, .inl kp)), (AM 5, .inl (cY 0, 8414, .inl td)), (AM 6, .inl (cY 0, 2, .inl wn)), (AM 13, .inl (cY 0, 4, .inl rw)), (AM 14, .inl (cY 0, 4, .inl br))] := hD1
  have hS := hS1
  clear hP1 hD1 hS1
  refine lv_iinc (v := 5) (lv' := [(1, .int 5), (0, .ref m0)]) hx hb dX8_load_20 hl (k := 0) rfl (by first | rfl | decide) (by decide) rfl (fun ls hl => ?_)
  refine lv_goto (tgt := 2) hx hb dX8_load_23 (by decide) ?_
  refine lv_iload_n hx hb dX8_load_2 rfl (lv_at hl 0 rfl) ?_
  refine lv_bipush (v := 22) hx hb dX8_load_3 (by decide) ?_
  refine lv_icmp_ge (tgt := 26) hx hb dX8_load_5 (by decide) (fun c_11 => ?_) (fun c_11 => ?_)
  · exact absurd c_11 (by decide)
  refine lv_aload_n hx hb dX8_load_8 rfl (lv_at hl 1 rfl) ?_
  refine va_get (D := (dC, dI)) (ci := 8) (v := .ref (AM 2)) (C := RX8) (T := TX8) (N := 17) hx hb hts inw_X8_load_X8 hown hK hP 0 rfl rfl 2 (by decide) (hts (.fieldLink RX8 13 "DuelFramesModel" "s" "[I") (List.mem_of_getElem? (i := 1) rfl)) (fun _ h9 => h9) rfl dX8_load_9 ?_
  refine lv_iload_n hx hb dX8_load_12 rfl (lv_at hl 0 rfl) ?_
  refine lv_aload_n hx hb dX8_load_13 rfl (lv_at hl 1 rfl) ?_
  refine va_get (D := (dC, dI)) (ci := 8) (v := .ref (AM 3)) (C := RX8) (T := TX8) (N := 17) hx hb hts inw_X8_load_X8 hown hK hP 0 rfl rfl 3 (by decide) (hts (.fieldLink RX8 16 "DuelFramesModel" "round" "[I") (List.mem_of_getElem? (i := 2) rfl)) (fun _ h9 => h9) rfl dX8_load_14 ?_
  refine lv_iload_n hx hb dX8_load_17 rfl (lv_at hl 0 rfl) ?_
  refine va_iald hx hb hK hP 3 0 rfl rfl (vin rfl) dX8_load_18 ?_
  refine lv_topi (fun x_12 ex_12 => ?_)
  obtain rfl : x_12 = (rd 5) := ex_12
  refine va_iast hx hb hK hP hD hS 2 0 rfl rfl (vin rfl) dX8_load_19 (fun H locs hP1 hD1 hS1 => ?_)
  clear hP hD hS
  have hP : va_P (dC, dI) vwCl [(m0, .inr (8, mdL AM g)), (AM 0, .inl (cY 0, 72, .inl tb)), (AM 2, .inl (cY 0, 22, .inl (upd (upd (upd (upd (upd (upd sA 0 (rd 0)) 1 (rd 1)) 2 (rd 2)) 3 (rd 3)) 4 (rd 4)) 5 (rd 5)))), (AM 3, .inl (cY 0, 22, .inl rd)), (AM 4, .inl (cY 0, 110, .inl kp)), (AM 5, .inl (cY 0, 8414, .inl td)), (AM 6, .inl (cY 0, 2, .inl wn)), (AM 13, .inl (cY 0, 4, .inl rw)), (AM 14, .inl (cY 0, 4, .inl br))] H := hP1
  have hD : va_D A [(m0, .inr (8, mdL AM g)), (AM 0, .inl (cY 0, 72, .inl tb)), (AM 2, .inl (cY 0, 22, .inl (upd (upd (upd (upd (upd (upd sA 0 (rd 0)) 1 (rd 1)) 2 (rd 2)) 3 (rd 3)) 4 (rd 4)) 5 (rd 5)))), (AM 3, .inl (cY 0, 22, .inl rd)), (AM 4, .inl (cY 0, 110, .inl kp)), (AM 5, .inl (cY 0, 8414, .inl td)), (AM 6, .inl (cY 0, 2, .inl wn)), (AM 13, .inl (cY 0, 4, .inl rw)), (AM 14, .inl (cY 0, 4, .inl br))] := hD1
  have hS := hS1
  clear hP1 hD1 hS1
  refine lv_iinc (v := 6) (lv' := [(1, .int 6), (0, .ref m0)]) hx hb dX8_load_20 hl (k := 0) rfl (by first | rfl | decide) (by decide) rfl (fun ls hl => ?_)
  refine lv_goto (tgt := 2) hx hb dX8_load_23 (by decide) ?_
  refine lv_iload_n hx hb dX8_load_2 rfl (lv_at hl 0 rfl) ?_
  refine lv_bipush (v := 22) hx hb dX8_load_3 (by decide) ?_
  refine lv_icmp_ge (tgt := 26) hx hb dX8_load_5 (by decide) (fun c_13 => ?_) (fun c_13 => ?_)
  · exact absurd c_13 (by decide)
  refine lv_aload_n hx hb dX8_load_8 rfl (lv_at hl 1 rfl) ?_
  refine va_get (D := (dC, dI)) (ci := 8) (v := .ref (AM 2)) (C := RX8) (T := TX8) (N := 17) hx hb hts inw_X8_load_X8 hown hK hP 0 rfl rfl 2 (by decide) (hts (.fieldLink RX8 13 "DuelFramesModel" "s" "[I") (List.mem_of_getElem? (i := 1) rfl)) (fun _ h9 => h9) rfl dX8_load_9 ?_
  refine lv_iload_n hx hb dX8_load_12 rfl (lv_at hl 0 rfl) ?_
  refine lv_aload_n hx hb dX8_load_13 rfl (lv_at hl 1 rfl) ?_
  refine va_get (D := (dC, dI)) (ci := 8) (v := .ref (AM 3)) (C := RX8) (T := TX8) (N := 17) hx hb hts inw_X8_load_X8 hown hK hP 0 rfl rfl 3 (by decide) (hts (.fieldLink RX8 16 "DuelFramesModel" "round" "[I") (List.mem_of_getElem? (i := 2) rfl)) (fun _ h9 => h9) rfl dX8_load_14 ?_
  refine lv_iload_n hx hb dX8_load_17 rfl (lv_at hl 0 rfl) ?_
  refine va_iald hx hb hK hP 3 0 rfl rfl (vin rfl) dX8_load_18 ?_
  refine lv_topi (fun x_14 ex_14 => ?_)
  obtain rfl : x_14 = (rd 6) := ex_14
  refine va_iast hx hb hK hP hD hS 2 0 rfl rfl (vin rfl) dX8_load_19 (fun H locs hP1 hD1 hS1 => ?_)
  clear hP hD hS
  have hP : va_P (dC, dI) vwCl [(m0, .inr (8, mdL AM g)), (AM 0, .inl (cY 0, 72, .inl tb)), (AM 2, .inl (cY 0, 22, .inl (upd (upd (upd (upd (upd (upd (upd sA 0 (rd 0)) 1 (rd 1)) 2 (rd 2)) 3 (rd 3)) 4 (rd 4)) 5 (rd 5)) 6 (rd 6)))), (AM 3, .inl (cY 0, 22, .inl rd)), (AM 4, .inl (cY 0, 110, .inl kp)), (AM 5, .inl (cY 0, 8414, .inl td)), (AM 6, .inl (cY 0, 2, .inl wn)), (AM 13, .inl (cY 0, 4, .inl rw)), (AM 14, .inl (cY 0, 4, .inl br))] H := hP1
  have hD : va_D A [(m0, .inr (8, mdL AM g)), (AM 0, .inl (cY 0, 72, .inl tb)), (AM 2, .inl (cY 0, 22, .inl (upd (upd (upd (upd (upd (upd (upd sA 0 (rd 0)) 1 (rd 1)) 2 (rd 2)) 3 (rd 3)) 4 (rd 4)) 5 (rd 5)) 6 (rd 6)))), (AM 3, .inl (cY 0, 22, .inl rd)), (AM 4, .inl (cY 0, 110, .inl kp)), (AM 5, .inl (cY 0, 8414, .inl td)), (AM 6, .inl (cY 0, 2, .inl wn)), (AM 13, .inl (cY 0, 4, .inl rw)), (AM 14, .inl (cY 0, 4, .inl br))] := hD1
  have hS := hS1
  clear hP1 hD1 hS1
  refine lv_iinc (v := 7) (lv' := [(1, .int 7), (0, .ref m0)]) hx hb dX8_load_20 hl (k := 0) rfl (by first | rfl | decide) (by decide) rfl (fun ls hl => ?_)
  refine lv_goto (tgt := 2) hx hb dX8_load_23 (by decide) ?_
  refine lv_iload_n hx hb dX8_load_2 rfl (lv_at hl 0 rfl) ?_
  refine lv_bipush (v := 22) hx hb dX8_load_3 (by decide) ?_
  refine lv_icmp_ge (tgt := 26) hx hb dX8_load_5 (by decide) (fun c_15 => ?_) (fun c_15 => ?_)
  · exact absurd c_15 (by decide)
  refine lv_aload_n hx hb dX8_load_8 rfl (lv_at hl 1 rfl) ?_
  refine va_get (D := (dC, dI)) (ci := 8) (v := .ref (AM 2)) (C := RX8) (T := TX8) (N := 17) hx hb hts inw_X8_load_X8 hown hK hP 0 rfl rfl 2 (by decide) (hts (.fieldLink RX8 13 "DuelFramesModel" "s" "[I") (List.mem_of_getElem? (i := 1) rfl)) (fun _ h9 => h9) rfl dX8_load_9 ?_
  refine lv_iload_n hx hb dX8_load_12 rfl (lv_at hl 0 rfl) ?_
  refine lv_aload_n hx hb dX8_load_13 rfl (lv_at hl 1 rfl) ?_
  refine va_get (D := (dC, dI)) (ci := 8) (v := .ref (AM 3)) (C := RX8) (T := TX8) (N := 17) hx hb hts inw_X8_load_X8 hown hK hP 0 rfl rfl 3 (by decide) (hts (.fieldLink RX8 16 "DuelFramesModel" "round" "[I") (List.mem_of_getElem? (i := 2) rfl)) (fun _ h9 => h9) rfl dX8_load_14 ?_
  refine lv_iload_n hx hb dX8_load_17 rfl (lv_at hl 0 rfl) ?_
  refine va_iald hx hb hK hP 3 0 rfl rfl (vin rfl) dX8_load_18 ?_
  refine lv_topi (fun x_16 ex_16 => ?_)
  obtain rfl : x_16 = (rd 7) := ex_16
  refine va_iast hx hb hK hP hD hS 2 0 rfl rfl (vin rfl) dX8_load_19 (fun H locs hP1 hD1 hS1 => ?_)
  clear hP hD hS
  have hP : va_P (dC, dI) vwCl [(m0, .inr (8, mdL AM g)), (AM 0, .inl (cY 0, 72, .inl tb)), (AM 2, .inl (cY 0, 22, .inl (upd (upd (upd (upd (upd (upd (upd (upd sA 0 (rd 0)) 1 (rd 1)) 2 (rd 2)) 3 (rd 3)) 4 (rd 4)) 5 (rd 5)) 6 (rd 6)) 7 (rd 7)))), (AM 3, .inl (cY 0, 22, .inl rd)), (AM 4, .inl (cY 0, 110, .inl kp)), (AM 5, .inl (cY 0, 8414, .inl td)), (AM 6, .inl (cY 0, 2, .inl wn)), (AM 13, .inl (cY 0, 4, .inl rw)), (AM 14, .inl (cY 0, 4, .inl br))] H := hP1
  have hD : va_D A [(m0, .inr (8, mdL AM g)), (AM 0, .inl (cY 0, 72, .inl tb)), (AM 2, .inl (cY 0, 22, .inl (upd (upd (upd (upd (upd (upd (upd (upd sA 0 (rd 0)) 1 (rd 1)) 2 (rd 2)) 3 (rd 3)) 4 (rd 4)) 5 (rd 5)) 6 (rd 6)) 7 (rd 7)))), (AM 3, .inl (cY 0, 22, .inl rd)), (AM 4, .inl (cY 0, 110, .inl kp)), (AM 5, .inl (cY 0, 8414, .inl td)), (AM 6, .inl (cY 0, 2, .inl wn)), (AM 13, .inl (cY 0, 4, .inl rw)), (AM 14, .inl (cY 0, 4, .inl br))] := hD1
  have hS := hS1
  clear hP1 hD1 hS1
  refine lv_iinc (v := 8) (lv' := [(1, .int 8), (0, .ref m0)]) hx hb dX8_load_20 hl (k := 0) rfl (by first | rfl | decide) (by decide) rfl (fun ls hl => ?_)
  refine lv_goto (tgt := 2) hx hb dX8_load_23 (by decide) ?_
  refine lv_iload_n hx hb dX8_load_2 rfl (lv_at hl 0 rfl) ?_
  refine lv_bipush (v := 22) hx hb dX8_load_3 (by decide) ?_
  refine lv_icmp_ge (tgt := 26) hx hb dX8_load_5 (by decide) (fun c_17 => ?_) (fun c_17 => ?_)
  · exact absurd c_17 (by decide)
  refine lv_aload_n hx hb dX8_load_8 rfl (lv_at hl 1 rfl) ?_
  refine va_get (D := (dC, dI)) (ci := 8) (v := .ref (AM 2)) (C := RX8) (T := TX8) (N := 17) hx hb hts inw_X8_load_X8 hown hK hP 0 rfl rfl 2 (by decide) (hts (.fieldLink RX8 13 "DuelFramesModel" "s" "[I") (List.mem_of_getElem? (i := 1) rfl)) (fun _ h9 => h9) rfl dX8_load_9 ?_
  refine lv_iload_n hx hb dX8_load_12 rfl (lv_at hl 0 rfl) ?_
  refine lv_aload_n hx hb dX8_load_13 rfl (lv_at hl 1 rfl) ?_
  refine va_get (D := (dC, dI)) (ci := 8) (v := .ref (AM 3)) (C := RX8) (T := TX8) (N := 17) hx hb hts inw_X8_load_X8 hown hK hP 0 rfl rfl 3 (by decide) (hts (.fieldLink RX8 16 "DuelFramesModel" "round" "[I") (List.mem_of_getElem? (i := 2) rfl)) (fun _ h9 => h9) rfl dX8_load_14 ?_
  refine lv_iload_n hx hb dX8_load_17 rfl (lv_at hl 0 rfl) ?_
  refine va_iald hx hb hK hP 3 0 rfl rfl (vin rfl) dX8_load_18 ?_
  refine lv_topi (fun x_18 ex_18 => ?_)
  obtain rfl : x_18 = (rd 8) := ex_18
  refine va_iast hx hb hK hP hD hS 2 0 rfl rfl (vin rfl) dX8_load_19 (fun H locs hP1 hD1 hS1 => ?_)
  clear hP hD hS
  have hP : va_P (dC, dI) vwCl [(m0, .inr (8, mdL AM g)), (AM 0, .inl (cY 0, 72, .inl tb)), (AM 2, .inl (cY 0, 22, .inl (upd (upd (upd (upd (upd (upd (upd (upd (upd sA 0 (rd 0)) 1 (rd 1)) 2 (rd 2)) 3 (rd 3)) 4 (rd 4)) 5 (rd 5)) 6 (rd 6)) 7 (rd 7)) 8 (rd 8)))), (AM 3, .inl (cY 0, 22, .inl rd)), (AM 4, .inl (cY 0, 110, .inl kp)), (AM 5, .inl (cY 0, 8414, .inl td)), (AM 6, .inl (cY 0, 2, .inl wn)), (AM 13, .inl (cY 0, 4, .inl rw)), (AM 14, .inl (cY 0, 4, .inl br))] H := hP1
  have hD : va_D A [(m0, .inr (8, mdL AM g)), (AM 0, .inl (cY 0, 72, .inl tb)), (AM 2, .inl (cY 0, 22, .inl (upd (upd (upd (upd (upd (upd (upd (upd (upd sA 0 (rd 0)) 1 (rd 1)) 2 (rd 2)) 3 (rd 3)) 4 (rd 4)) 5 (rd 5)) 6 (rd 6)) 7 (rd 7)) 8 (rd 8)))), (AM 3, .inl (cY 0, 22, .inl rd)), (AM 4, .inl (cY 0, 110, .inl kp)), (AM 5, .inl (cY 0, 8414, .inl td)), (AM 6, .inl (cY 0, 2, .inl wn)), (AM 13, .inl (cY 0, 4, .inl rw)), (AM 14, .inl (cY 0, 4, .inl br))] := hD1
  have hS := hS1
  clear hP1 hD1 hS1
  refine lv_iinc (v := 9) (lv' := [(1, .int 9), (0, .ref m0)]) hx hb dX8_load_20 hl (k := 0) rfl (by first | rfl | decide) (by decide) rfl (fun ls hl => ?_)
  refine lv_goto (tgt := 2) hx hb dX8_load_23 (by decide) ?_
  refine lv_iload_n hx hb dX8_load_2 rfl (lv_at hl 0 rfl) ?_
  refine lv_bipush (v := 22) hx hb dX8_load_3 (by decide) ?_
  refine lv_icmp_ge (tgt := 26) hx hb dX8_load_5 (by decide) (fun c_19 => ?_) (fun c_19 => ?_)
  · exact absurd c_19 (by decide)
  refine lv_aload_n hx hb dX8_load_8 rfl (lv_at hl 1 rfl) ?_
  refine va_get (D := (dC, dI)) (ci := 8) (v := .ref (AM 2)) (C := RX8) (T := TX8) (N := 17) hx hb hts inw_X8_load_X8 hown hK hP 0 rfl rfl 2 (by decide) (hts (.fieldLink RX8 13 "DuelFramesModel" "s" "[I") (List.mem_of_getElem? (i := 1) rfl)) (fun _ h9 => h9) rfl dX8_load_9 ?_
  refine lv_iload_n hx hb dX8_load_12 rfl (lv_at hl 0 rfl) ?_
  refine lv_aload_n hx hb dX8_load_13 rfl (lv_at hl 1 rfl) ?_
  refine va_get (D := (dC, dI)) (ci := 8) (v := .ref (AM 3)) (C := RX8) (T := TX8) (N := 17) hx hb hts inw_X8_load_X8 hown hK hP 0 rfl rfl 3 (by decide) (hts (.fieldLink RX8 16 "DuelFramesModel" "round" "[I") (List.mem_of_getElem? (i := 2) rfl)) (fun _ h9 => h9) rfl dX8_load_14 ?_
  refine lv_iload_n hx hb dX8_load_17 rfl (lv_at hl 0 rfl) ?_
  refine va_iald hx hb hK hP 3 0 rfl rfl (vin rfl) dX8_load_18 ?_
  refine lv_topi (fun x_20 ex_20 => ?_)
  obtain rfl : x_20 = (rd 9) := ex_20
  refine va_iast hx hb hK hP hD hS 2 0 rfl rfl (vin rfl) dX8_load_19 (fun H locs hP1 hD1 hS1 => ?_)
  clear hP hD hS
  have hP : va_P (dC, dI) vwCl [(m0, .inr (8, mdL AM g)), (AM 0, .inl (cY 0, 72, .inl tb)), (AM 2, .inl (cY 0, 22, .inl (upd (upd (upd (upd (upd (upd (upd (upd (upd (upd sA 0 (rd 0)) 1 (rd 1)) 2 (rd 2)) 3 (rd 3)) 4 (rd 4)) 5 (rd 5)) 6 (rd 6)) 7 (rd 7)) 8 (rd 8)) 9 (rd 9)))), (AM 3, .inl (cY 0, 22, .inl rd)), (AM 4, .inl (cY 0, 110, .inl kp)), (AM 5, .inl (cY 0, 8414, .inl td)), (AM 6, .inl (cY 0, 2, .inl wn)), (AM 13, .inl (cY 0, 4, .inl rw)), (AM 14, .inl (cY 0, 4, .inl br))] H := hP1
  have hD : va_D A [(m0, .inr (8, mdL AM g)), (AM 0, .inl (cY 0, 72, .inl tb)), (AM 2, .inl (cY 0, 22, .inl (upd (upd (upd (upd (upd (upd (upd (upd (upd (upd sA 0 (rd 0)) 1 (rd 1)) 2 (rd 2)) 3 (rd 3)) 4 (rd 4)) 5 (rd 5)) 6 (rd 6)) 7 (rd 7)) 8 (rd 8)) 9 (rd 9)))), (AM 3, .inl (cY 0, 22, .inl rd)), (AM 4, .inl (cY 0, 110, .inl kp)), (AM 5, .inl (cY 0, 8414, .inl td)), (AM 6, .inl (cY 0, 2, .inl wn)), (AM 13, .inl (cY 0, 4, .inl rw)), (AM 14, .inl (cY 0, 4, .inl br))] := hD1
  have hS := hS1
  clear hP1 hD1 hS1
  refine lv_iinc (v := 10) (lv' := [(1, .int 10), (0, .ref m0)]) hx hb dX8_load_20 hl (k := 0) rfl (by first | rfl | decide) (by decide) rfl (fun ls hl => ?_)
  refine lv_goto (tgt := 2) hx hb dX8_load_23 (by decide) ?_
  refine lv_iload_n hx hb dX8_load_2 rfl (lv_at hl 0 rfl) ?_
  refine lv_bipush (v := 22) hx hb dX8_load_3 (by decide) ?_
  refine lv_icmp_ge (tgt := 26) hx hb dX8_load_5 (by decide) (fun c_21 => ?_) (fun c_21 => ?_)
  · exact absurd c_21 (by decide)
  refine lv_aload_n hx hb dX8_load_8 rfl (lv_at hl 1 rfl) ?_
  refine va_get (D := (dC, dI)) (ci := 8) (v := .ref (AM 2)) (C := RX8) (T := TX8) (N := 17) hx hb hts inw_X8_load_X8 hown hK hP 0 rfl rfl 2 (by decide) (hts (.fieldLink RX8 13 "DuelFramesModel" "s" "[I") (List.mem_of_getElem? (i := 1) rfl)) (fun _ h9 => h9) rfl dX8_load_9 ?_
  refine lv_iload_n hx hb dX8_load_12 rfl (lv_at hl 0 rfl) ?_
  refine lv_aload_n hx hb dX8_load_13 rfl (lv_at hl 1 rfl) ?_
  refine va_get (D := (dC, dI)) (ci := 8) (v := .ref (AM 3)) (C := RX8) (T := TX8) (N := 17) hx hb hts inw_X8_load_X8 hown hK hP 0 rfl rfl 3 (by decide) (hts (.fieldLink RX8 16 "DuelFramesModel" "round" "[I") (List.mem_of_getElem? (i := 2) rfl)) (fun _ h9 => h9) rfl dX8_load_14 ?_
  refine lv_iload_n hx hb dX8_load_17 rfl (lv_at hl 0 rfl) ?_
  refine va_iald hx hb hK hP 3 0 rfl rfl (vin rfl) dX8_load_18 ?_
  refine lv_topi (fun x_22 ex_22 => ?_)
  obtain rfl : x_22 = (rd 10) := ex_22
  refine va_iast hx hb hK hP hD hS 2 0 rfl rfl (vin rfl) dX8_load_19 (fun H locs hP1 hD1 hS1 => ?_)
  clear hP hD hS
  have hP : va_P (dC, dI) vwCl [(m0, .inr (8, mdL AM g)), (AM 0, .inl (cY 0, 72, .inl tb)), (AM 2, .inl (cY 0, 22, .inl (upd (upd (upd (upd (upd (upd (upd (upd (upd (upd (upd sA 0 (rd 0)) 1 (rd 1)) 2 (rd 2)) 3 (rd 3)) 4 (rd 4)) 5 (rd 5)) 6 (rd 6)) 7 (rd 7)) 8 (rd 8)) 9 (rd 9)) 10 (rd 10)))), (AM 3, .inl (cY 0, 22, .inl rd)), (AM 4, .inl (cY 0, 110, .inl kp)), (AM 5, .inl (cY 0, 8414, .inl td)), (AM 6, .inl (cY 0, 2, .inl wn)), (AM 13, .inl (cY 0, 4, .inl rw)), (AM 14, .inl (cY 0, 4, .inl br))] H := hP1
  have hD : va_D A [(m0, .inr (8, mdL AM g)), (AM 0, .inl (cY 0, 72, .inl tb)), (AM 2, .inl (cY 0, 22, .inl (upd (upd (upd (upd (upd (upd (upd (upd (upd (upd (upd sA 0 (rd 0)) 1 (rd 1)) 2 (rd 2)) 3 (rd 3)) 4 (rd 4)) 5 (rd 5)) 6 (rd 6)) 7 (rd 7)) 8 (rd 8)) 9 (rd 9)) 10 (rd 10)))), (AM 3, .inl (cY 0, 22, .inl rd)), (AM 4, .inl (cY 0, 110, .inl kp)), (AM 5, .inl (cY 0, 8414, .inl td)), (AM 6, .inl (cY 0, 2, .inl wn)), (AM 13, .inl (cY 0, 4, .inl rw)), (AM 14, .inl (cY 0, 4, .inl br))] := hD1
  have hS := hS1
  clear hP1 hD1 hS1
  refine lv_iinc (v := 11) (lv' := [(1, .int 11), (0, .ref m0)]) hx hb dX8_load_20 hl (k := 0) rfl (by first | rfl | decide) (by decide) rfl (fun ls hl => ?_)
  refine lv_goto (tgt := 2) hx hb dX8_load_23 (by decide) ?_
  refine lv_iload_n hx hb dX8_load_2 rfl (lv_at hl 0 rfl) ?_
  refine lv_bipush (v := 22) hx hb dX8_load_3 (by decide) ?_
  refine lv_icmp_ge (tgt := 26) hx hb dX8_load_5 (by decide) (fun c_23 => ?_) (fun c_23 => ?_)
  · exact absurd c_23 (by decide)
  refine lv_aload_n hx hb dX8_load_8 rfl (lv_at hl 1 rfl) ?_
  refine va_get (D := (dC, dI)) (ci := 8) (v := .ref (AM 2)) (C := RX8) (T := TX8) (N := 17) hx hb hts inw_X8_load_X8 hown hK hP 0 rfl rfl 2 (by decide) (hts (.fieldLink RX8 13 "DuelFramesModel" "s" "[I") (List.mem_of_getElem? (i := 1) rfl)) (fun _ h9 => h9) rfl dX8_load_9 ?_
  refine lv_iload_n hx hb dX8_load_12 rfl (lv_at hl 0 rfl) ?_
  refine lv_aload_n hx hb dX8_load_13 rfl (lv_at hl 1 rfl) ?_
  refine va_get (D := (dC, dI)) (ci := 8) (v := .ref (AM 3)) (C := RX8) (T := TX8) (N := 17) hx hb hts inw_X8_load_X8 hown hK hP 0 rfl rfl 3 (by decide) (hts (.fieldLink RX8 16 "DuelFramesModel" "round" "[I") (List.mem_of_getElem? (i := 2) rfl)) (fun _ h9 => h9) rfl dX8_load_14 ?_
  refine lv_iload_n hx hb dX8_load_17 rfl (lv_at hl 0 rfl) ?_
  refine va_iald hx hb hK hP 3 0 rfl rfl (vin rfl) dX8_load_18 ?_
  refine lv_topi (fun x_24 ex_24 => ?_)
  obtain rfl : x_24 = (rd 11) := ex_24
  refine va_iast hx hb hK hP hD hS 2 0 rfl rfl (vin rfl) dX8_load_19 (fun H locs hP1 hD1 hS1 => ?_)
  clear hP hD hS
  have hP : va_P (dC, dI) vwCl [(m0, .inr (8, mdL AM g)), (AM 0, .inl (cY 0, 72, .inl tb)), (AM 2, .inl (cY 0, 22, .inl (upd (upd (upd (upd (upd (upd (upd (upd (upd (upd (upd (upd sA 0 (rd 0)) 1 (rd 1)) 2 (rd 2)) 3 (rd 3)) 4 (rd 4)) 5 (rd 5)) 6 (rd 6)) 7 (rd 7)) 8 (rd 8)) 9 (rd 9)) 10 (rd 10)) 11 (rd 11)))), (AM 3, .inl (cY 0, 22, .inl rd)), (AM 4, .inl (cY 0, 110, .inl kp)), (AM 5, .inl (cY 0, 8414, .inl td)), (AM 6, .inl (cY 0, 2, .inl wn)), (AM 13, .inl (cY 0, 4, .inl rw)), (AM 14, .inl (cY 0, 4, .inl br))] H := hP1
  have hD : va_D A [(m0, .inr (8, mdL AM g)), (AM 0, .inl (cY 0, 72, .inl tb)), (AM 2, .inl (cY 0, 22, .inl (upd (upd (upd (upd (upd (upd (upd (upd (upd (upd (upd (upd sA 0 (rd 0)) 1 (rd 1)) 2 (rd 2)) 3 (rd 3)) 4 (rd 4)) 5 (rd 5)) 6 (rd 6)) 7 (rd 7)) 8 (rd 8)) 9 (rd 9)) 10 (rd 10)) 11 (rd 11)))), (AM 3, .inl (cY 0, 22, .inl rd)), (AM 4, .inl (cY 0, 110, .inl kp)), (AM 5, .inl (cY 0, 8414, .inl td)), (AM 6, .inl (cY 0, 2, .inl wn)), (AM 13, .inl (cY 0, 4, .inl rw)), (AM 14, .inl (cY 0, 4, .inl br))] := hD1
  have hS := hS1
  clear hP1 hD1 hS1
  refine lv_iinc (v := 12) (lv' := [(1, .int 12), (0, .ref m0)]) hx hb dX8_load_20 hl (k := 0) rfl (by first | rfl | decide) (by decide) rfl (fun ls hl => ?_)
  refine lv_goto (tgt := 2) hx hb dX8_load_23 (by decide) ?_
  refine lv_iload_n hx hb dX8_load_2 rfl (lv_at hl 0 rfl) ?_
  refine lv_bipush (v := 22) hx hb dX8_load_3 (by decide) ?_
  refine lv_icmp_ge (tgt := 26) hx hb dX8_load_5 (by decide) (fun c_25 => ?_) (fun c_25 => ?_)
  · exact absurd c_25 (by decide)
  refine lv_aload_n hx hb dX8_load_8 rfl (lv_at hl 1 rfl) ?_
  refine va_get (D := (dC, dI)) (ci := 8) (v := .ref (AM 2)) (C := RX8) (T := TX8) (N := 17) hx hb hts inw_X8_load_X8 hown hK hP 0 rfl rfl 2 (by decide) (hts (.fieldLink RX8 13 "DuelFramesModel" "s" "[I") (List.mem_of_getElem? (i := 1) rfl)) (fun _ h9 => h9) rfl dX8_load_9 ?_
  refine lv_iload_n hx hb dX8_load_12 rfl (lv_at hl 0 rfl) ?_
  refine lv_aload_n hx hb dX8_load_13 rfl (lv_at hl 1 rfl) ?_
  refine va_get (D := (dC, dI)) (ci := 8) (v := .ref (AM 3)) (C := RX8) (T := TX8) (N := 17) hx hb hts inw_X8_load_X8 hown hK hP 0 rfl rfl 3 (by decide) (hts (.fieldLink RX8 16 "DuelFramesModel" "round" "[I") (List.mem_of_getElem? (i := 2) rfl)) (fun _ h9 => h9) rfl dX8_load_14 ?_
  refine lv_iload_n hx hb dX8_load_17 rfl (lv_at hl 0 rfl) ?_
  refine va_iald hx hb hK hP 3 0 rfl rfl (vin rfl) dX8_load_18 ?_
  refine lv_topi (fun x_26 ex_26 => ?_)
  obtain rfl : x_26 = (rd 12) := ex_26
  refine va_iast hx hb hK hP hD hS 2 0 rfl rfl (vin rfl) dX8_load_19 (fun H locs hP1 hD1 hS1 => ?_)
  clear hP hD hS
  have hP : va_P (dC, dI) vwCl [(m0, .inr (8, mdL AM g)), (AM 0, .inl (cY 0, 72, .inl tb)), (AM 2, .inl (cY 0, 22, .inl (upd (upd (upd (upd (upd (upd (upd (upd (upd (upd (upd (upd (upd sA 0 (rd 0)) 1 (rd 1)) 2 (rd 2)) 3 (rd 3)) 4 (rd 4)) 5 (rd 5)) 6 (rd 6)) 7 (rd 7)) 8 (rd 8)) 9 (rd 9)) 10 (rd 10)) 11 (rd 11)) 12 (rd 12)))), (AM 3, .inl (cY 0, 22, .inl rd)), (AM 4, .inl (cY 0, 110, .inl kp)), (AM 5, .inl (cY 0, 8414, .inl td)), (AM 6, .inl (cY 0, 2, .inl wn)), (AM 13, .inl (cY 0, 4, .inl rw)), (AM 14, .inl (cY 0, 4, .inl br))] H := hP1
  have hD : va_D A [(m0, .inr (8, mdL AM g)), (AM 0, .inl (cY 0, 72, .inl tb)), (AM 2, .inl (cY 0, 22, .inl (upd (upd (upd (upd (upd (upd (upd (upd (upd (upd (upd (upd (upd sA 0 (rd 0)) 1 (rd 1)) 2 (rd 2)) 3 (rd 3)) 4 (rd 4)) 5 (rd 5)) 6 (rd 6)) 7 (rd 7)) 8 (rd 8)) 9 (rd 9)) 10 (rd 10)) 11 (rd 11)) 12 (rd 12)))), (AM 3, .inl (cY 0, 22, .inl rd)), (AM 4, .inl (cY 0, 110, .inl kp)), (AM 5, .inl (cY 0, 8414, .inl td)), (AM 6, .inl (cY 0, 2, .inl wn)), (AM 13, .inl (cY 0, 4, .inl rw)), (AM 14, .inl (cY 0, 4, .inl br))] := hD1
  have hS := hS1
  clear hP1 hD1 hS1
  refine lv_iinc (v := 13) (lv' := [(1, .int 13), (0, .ref m0)]) hx hb dX8_load_20 hl (k := 0) rfl (by first | rfl | decide) (by decide) rfl (fun ls hl => ?_)
  refine lv_goto (tgt := 2) hx hb dX8_load_23 (by decide) ?_
  refine lv_iload_n hx hb dX8_load_2 rfl (lv_at hl 0 rfl) ?_
  refine lv_bipush (v := 22) hx hb dX8_load_3 (by decide) ?_
  refine lv_icmp_ge (tgt := 26) hx hb dX8_load_5 (by decide) (fun c_27 => ?_) (fun c_27 => ?_)
  · exact absurd c_27 (by decide)
  refine lv_aload_n hx hb dX8_load_8 rfl (lv_at hl 1 rfl) ?_
  refine va_get (D := (dC, dI)) (ci := 8) (v := .ref (AM 2)) (C := RX8) (T := TX8) (N := 17) hx hb hts inw_X8_load_X8 hown hK hP 0 rfl rfl 2 (by decide) (hts (.fieldLink RX8 13 "DuelFramesModel" "s" "[I") (List.mem_of_getElem? (i := 1) rfl)) (fun _ h9 => h9) rfl dX8_load_9 ?_
  refine lv_iload_n hx hb dX8_load_12 rfl (lv_at hl 0 rfl) ?_
  refine lv_aload_n hx hb dX8_load_13 rfl (lv_at hl 1 rfl) ?_
  refine va_get (D := (dC, dI)) (ci := 8) (v := .ref (AM 3)) (C := RX8) (T := TX8) (N := 17) hx hb hts inw_X8_load_X8 hown hK hP 0 rfl rfl 3 (by decide) (hts (.fieldLink RX8 16 "DuelFramesModel" "round" "[I") (List.mem_of_getElem? (i := 2) rfl)) (fun _ h9 => h9) rfl dX8_load_14 ?_
  refine lv_iload_n hx hb dX8_load_17 rfl (lv_at hl 0 rfl) ?_
  refine va_iald hx hb hK hP 3 0 rfl rfl (vin rfl) dX8_load_18 ?_
  refine lv_topi (fun x_28 ex_28 => ?_)
  obtain rfl : x_28 = (rd 13) := ex_28
  refine va_iast hx hb hK hP hD hS 2 0 rfl rfl (vin rfl) dX8_load_19 (fun H locs hP1 hD1 hS1 => ?_)
  clear hP hD hS
  have hP : va_P (dC, dI) vwCl [(m0, .inr (8, mdL AM g)), (AM 0, .inl (cY 0, 72, .inl tb)), (AM 2, .inl (cY 0, 22, .inl (upd (upd (upd (upd (upd (upd (upd (upd (upd (upd (upd (upd (upd (upd sA 0 (rd 0)) 1 (rd 1)) 2 (rd 2)) 3 (rd 3)) 4 (rd 4)) 5 (rd 5)) 6 (rd 6)) 7 (rd 7)) 8 (rd 8)) 9 (rd 9)) 10 (rd 10)) 11 (rd 11)) 12 (rd 12)) 13 (rd 13)))), (AM 3, .inl (cY 0, 22, .inl rd)), (AM 4, .inl (cY 0, 110, .inl kp)), (AM 5, .inl (cY 0, 8414, .inl td)), (AM 6, .inl (cY 0, 2, .inl wn)), (AM 13, .inl (cY 0, 4, .inl rw)), (AM 14, .inl (cY 0, 4, .inl br))] H := hP1
  have hD : va_D A [(m0, .inr (8, mdL AM g)), (AM 0, .inl (cY 0, 72, .inl tb)), (AM 2, .inl (cY 0, 22, .inl (upd (upd (upd (upd (upd (upd (upd (upd (upd (upd (upd (upd (upd (upd sA 0 (rd 0)) 1 (rd 1)) 2 (rd 2)) 3 (rd 3)) 4 (rd 4)) 5 (rd 5)) 6 (rd 6)) 7 (rd 7)) 8 (rd 8)) 9 (rd 9)) 10 (rd 10)) 11 (rd 11)) 12 (rd 12)) 13 (rd 13)))), (AM 3, .inl (cY 0, 22, .inl rd)), (AM 4, .inl (cY 0, 110, .inl kp)), (AM 5, .inl (cY 0, 8414, .inl td)), (AM 6, .inl (cY 0, 2, .inl wn)), (AM 13, .inl (cY 0, 4, .inl rw)), (AM 14, .inl (cY 0, 4, .inl br))] := hD1
  have hS := hS1
  clear hP1 hD1 hS1
  refine lv_iinc (v := 14) (lv' := [(1, .int 14), (0, .ref m0)]) hx hb dX8_load_20 hl (k := 0) rfl (by first | rfl | decide) (by decide) rfl (fun ls hl => ?_)
  refine lv_goto (tgt := 2) hx hb dX8_load_23 (by decide) ?_
  refine lv_iload_n hx hb dX8_load_2 rfl (lv_at hl 0 rfl) ?_
  refine lv_bipush (v := 22) hx hb dX8_load_3 (by decide) ?_
  refine lv_icmp_ge (tgt := 26) hx hb dX8_load_5 (by decide) (fun c_29 => ?_) (fun c_29 => ?_)
  · exact absurd c_29 (by decide)
  refine lv_aload_n hx hb dX8_load_8 rfl (lv_at hl 1 rfl) ?_
  refine va_get (D := (dC, dI)) (ci := 8) (v := .ref (AM 2)) (C := RX8) (T := TX8) (N := 17) hx hb hts inw_X8_load_X8 hown hK hP 0 rfl rfl 2 (by decide) (hts (.fieldLink RX8 13 "DuelFramesModel" "s" "[I") (List.mem_of_getElem? (i := 1) rfl)) (fun _ h9 => h9) rfl dX8_load_9 ?_
  refine lv_iload_n hx hb dX8_load_12 rfl (lv_at hl 0 rfl) ?_
  refine lv_aload_n hx hb dX8_load_13 rfl (lv_at hl 1 rfl) ?_
  refine va_get (D := (dC, dI)) (ci := 8) (v := .ref (AM 3)) (C := RX8) (T := TX8) (N := 17) hx hb hts inw_X8_load_X8 hown hK hP 0 rfl rfl 3 (by decide) (hts (.fieldLink RX8 16 "DuelFramesModel" "round" "[I") (List.mem_of_getElem? (i := 2) rfl)) (fun _ h9 => h9) rfl dX8_load_14 ?_
  refine lv_iload_n hx hb dX8_load_17 rfl (lv_at hl 0 rfl) ?_
  refine va_iald hx hb hK hP 3 0 rfl rfl (vin rfl) dX8_load_18 ?_
  refine lv_topi (fun x_30 ex_30 => ?_)
  obtain rfl : x_30 = (rd 14) := ex_30
  refine va_iast hx hb hK hP hD hS 2 0 rfl rfl (vin rfl) dX8_load_19 (fun H locs hP1 hD1 hS1 => ?_)
  clear hP hD hS
  have hP : va_P (dC, dI) vwCl [(m0, .inr (8, mdL AM g)), (AM 0, .inl (cY 0, 72, .inl tb)), (AM 2, .inl (cY 0, 22, .inl (upd (upd (upd (upd (upd (upd (upd (upd (upd (upd (upd (upd (upd (upd (upd sA 0 (rd 0)) 1 (rd 1)) 2 (rd 2)) 3 (rd 3)) 4 (rd 4)) 5 (rd 5)) 6 (rd 6)) 7 (rd 7)) 8 (rd 8)) 9 (rd 9)) 10 (rd 10)) 11 (rd 11)) 12 (rd 12)) 13 (rd 13)) 14 (rd 14)))), (AM 3, .inl (cY 0, 22, .inl rd)), (AM 4, .inl (cY 0, 110, .inl kp)), (AM 5, .inl (cY 0, 8414, .inl td)), (AM 6, .inl (cY 0, 2, .inl wn)), (AM 13, .inl (cY 0, 4, .inl rw)), (AM 14, .inl (cY 0, 4, .inl br))] H := hP1
  have hD : va_D A [(m0, .inr (8, mdL AM g)), (AM 0, .inl (cY 0, 72, .inl tb)), (AM 2, .inl (cY 0, 22, .inl (upd (upd (upd (upd (upd (upd (upd (upd (upd (upd (upd (upd (upd (upd (upd sA 0 (rd 0)) 1 (rd 1)) 2 (rd 2)) 3 (rd 3)) 4 (rd 4)) 5 (rd 5)) 6 (rd 6)) 7 (rd 7)) 8 (rd 8)) 9 (rd 9)) 10 (rd 10)) 11 (rd 11)) 12 (rd 12)) 13 (rd 13)) 14 (rd 14)))), (AM 3, .inl (cY 0, 22, .inl rd)), (AM 4, .inl (cY 0, 110, .inl kp)), (AM 5, .inl (cY 0, 8414, .inl td)), (AM 6, .inl (cY 0, 2, .inl wn)), (AM 13, .inl (cY 0, 4, .inl rw)), (AM 14, .inl (cY 0, 4, .inl br))] := hD1
  have hS := hS1
  clear hP1 hD1 hS1
  refine lv_iinc (v := 15) (lv' := [(1, .int 15), (0, .ref m0)]) hx hb dX8_load_20 hl (k := 0) rfl (by first | rfl | decide) (by decide) rfl (fun ls hl => ?_)
  refine lv_goto (tgt := 2) hx hb dX8_load_23 (by decide) ?_
  refine lv_iload_n hx hb dX8_load_2 rfl (lv_at hl 0 rfl) ?_
  refine lv_bipush (v := 22) hx hb dX8_load_3 (by decide) ?_
  refine lv_icmp_ge (tgt := 26) hx hb dX8_load_5 (by decide) (fun c_31 => ?_) (fun c_31 => ?_)
  · exact absurd c_31 (by decide)
  refine lv_aload_n hx hb dX8_load_8 rfl (lv_at hl 1 rfl) ?_
  refine va_get (D := (dC, dI)) (ci := 8) (v := .ref (AM 2)) (C := RX8) (T := TX8) (N := 17) hx hb hts inw_X8_load_X8 hown hK hP 0 rfl rfl 2 (by decide) (hts (.fieldLink RX8 13 "DuelFramesModel" "s" "[I") (List.mem_of_getElem? (i := 1) rfl)) (fun _ h9 => h9) rfl dX8_load_9 ?_
  refine lv_iload_n hx hb dX8_load_12 rfl (lv_at hl 0 rfl) ?_
  refine lv_aload_n hx hb dX8_load_13 rfl (lv_at hl 1 rfl) ?_
  refine va_get (D := (dC, dI)) (ci := 8) (v := .ref (AM 3)) (C := RX8) (T := TX8) (N := 17) hx hb hts inw_X8_load_X8 hown hK hP 0 rfl rfl 3 (by decide) (hts (.fieldLink RX8 16 "DuelFramesModel" "round" "[I") (List.mem_of_getElem? (i := 2) rfl)) (fun _ h9 => h9) rfl dX8_load_14 ?_
  refine lv_iload_n hx hb dX8_load_17 rfl (lv_at hl 0 rfl) ?_
  refine va_iald hx hb hK hP 3 0 rfl rfl (vin rfl) dX8_load_18 ?_
  refine lv_topi (fun x_32 ex_32 => ?_)
  obtain rfl : x_32 = (rd 15) := ex_32
  refine va_iast hx hb hK hP hD hS 2 0 rfl rfl (vin rfl) dX8_load_19 (fun H locs hP1 hD1 hS1 => ?_)
  clear hP hD hS
  have hP : va_P (dC, dI) vwCl [(m0, .inr (8, mdL AM g)), (AM 0, .inl (cY 0, 72, .inl tb)), (AM 2, .inl (cY 0, 22, .inl (upd (upd (upd (upd (upd (upd (upd (upd (upd (upd (upd (upd (upd (upd (upd (upd sA 0 (rd 0)) 1 (rd 1)) 2 (rd 2)) 3 (rd 3)) 4 (rd 4)) 5 (rd 5)) 6 (rd 6)) 7 (rd 7)) 8 (rd 8)) 9 (rd 9)) 10 (rd 10)) 11 (rd 11)) 12 (rd 12)) 13 (rd 13)) 14 (rd 14)) 15 (rd 15)))), (AM 3, .inl (cY 0, 22, .inl rd)), (AM 4, .inl (cY 0, 110, .inl kp)), (AM 5, .inl (cY 0, 8414, .inl td)), (AM 6, .inl (cY 0, 2, .inl wn)), (AM 13, .inl (cY 0, 4, .inl rw)), (AM 14, .inl (cY 0, 4, .inl br))] H := hP1
  have hD : va_D A [(m0, .inr (8, mdL AM g)), (AM 0, .inl (cY 0, 72, .inl tb)), (AM 2, .inl (cY 0, 22, .inl (upd (upd (upd (upd (upd (upd (upd (upd (upd (upd (upd (upd (upd (upd (upd (upd sA 0 (rd 0)) 1 (rd 1)) 2 (rd 2)) 3 (rd 3)) 4 (rd 4)) 5 (rd 5)) 6 (rd 6)) 7 (rd 7)) 8 (rd 8)) 9 (rd 9)) 10 (rd 10)) 11 (rd 11)) 12 (rd 12)) 13 (rd 13)) 14 (rd 14)) 15 (rd 15)))), (AM 3, .inl (cY 0, 22, .inl rd)), (AM 4, .inl (cY 0, 110, .inl kp)), (AM 5, .inl (cY 0, 8414, .inl td)), (AM 6, .inl (cY 0, 2, .inl wn)), (AM 13, .inl (cY 0, 4, .inl rw)), (AM 14, .inl (cY 0, 4, .inl br))] := hD1
  have hS := hS1
  clear hP1 hD1 hS1
  refine lv_iinc (v := 16) (lv' := [(1, .int 16), (0, .ref m0)]) hx hb dX8_load_20 hl (k := 0) rfl (by first | rfl | decide) (by decide) rfl (fun ls hl => ?_)
  refine lv_goto (tgt := 2) hx hb dX8_load_23 (by decide) ?_
  refine lv_iload_n hx hb dX8_load_2 rfl (lv_at hl 0 rfl) ?_
  refine lv_bipush (v := 22) hx hb dX8_load_3 (by decide) ?_
  refine lv_icmp_ge (tgt := 26) hx hb dX8_load_5 (by decide) (fun c_33 => ?_) (fun c_33 => ?_)
  · exact absurd c_33 (by decide)
  refine lv_aload_n hx hb dX8_load_8 rfl (lv_at hl 1 rfl) ?_
  refine va_get (D := (dC, dI)) (ci := 8) (v := .ref (AM 2)) (C := RX8) (T := TX8) (N := 17) hx hb hts inw_X8_load_X8 hown hK hP 0 rfl rfl 2 (by decide) (hts (.fieldLink RX8 13 "DuelFramesModel" "s" "[I") (List.mem_of_getElem? (i := 1) rfl)) (fun _ h9 => h9) rfl dX8_load_9 ?_
  refine lv_iload_n hx hb dX8_load_12 rfl (lv_at hl 0 rfl) ?_
  refine lv_aload_n hx hb dX8_load_13 rfl (lv_at hl 1 rfl) ?_
  refine va_get (D := (dC, dI)) (ci := 8) (v := .ref (AM 3)) (C := RX8) (T := TX8) (N := 17) hx hb hts inw_X8_load_X8 hown hK hP 0 rfl rfl 3 (by decide) (hts (.fieldLink RX8 16 "DuelFramesModel" "round" "[I") (List.mem_of_getElem? (i := 2) rfl)) (fun _ h9 => h9) rfl dX8_load_14 ?_
  refine lv_iload_n hx hb dX8_load_17 rfl (lv_at hl 0 rfl) ?_
  refine va_iald hx hb hK hP 3 0 rfl rfl (vin rfl) dX8_load_18 ?_
  refine lv_topi (fun x_34 ex_34 => ?_)
  obtain rfl : x_34 = (rd 16) := ex_34
  refine va_iast hx hb hK hP hD hS 2 0 rfl rfl (vin rfl) dX8_load_19 (fun H locs hP1 hD1 hS1 => ?_)
  clear hP hD hS
  have hP : va_P (dC, dI) vwCl [(m0, .inr (8, mdL AM g)), (AM 0, .inl (cY 0, 72, .inl tb)), (AM 2, .inl (cY 0, 22, .inl (upd (upd (upd (upd (upd (upd (upd (upd (upd (upd (upd (upd (upd (upd (upd (upd (upd sA 0 (rd 0)) 1 (rd 1)) 2 (rd 2)) 3 (rd 3)) 4 (rd 4)) 5 (rd 5)) 6 (rd 6)) 7 (rd 7)) 8 (rd 8)) 9 (rd 9)) 10 (rd 10)) 11 (rd 11)) 12 (rd 12)) 13 (rd 13)) 14 (rd 14)) 15 (rd 15)) 16 (rd 16)))), (AM 3, .inl (cY 0, 22, .inl rd)), (AM 4, .inl (cY 0, 110, .inl kp)), (AM 5, .inl (cY 0, 8414, .inl td)), (AM 6, .inl (cY 0, 2, .inl wn)), (AM 13, .inl (cY 0, 4, .inl rw)), (AM 14, .inl (cY 0, 4, .inl br))] H := hP1
  have hD : va_D A [(m0, .inr (8, mdL AM g)), (AM 0, .inl (cY 0, 72, .inl tb)), (AM 2, .inl (cY 0, 22, .inl (upd (upd (upd (upd (upd (upd (upd (upd (upd (upd (upd (upd (upd (upd (upd (upd (upd sA 0 (rd 0)) 1 (rd 1)) 2 (rd 2)) 3 (rd 3)) 4 (rd 4)) 5 (rd 5)) 6 (rd 6)) 7 (rd 7)) 8 (rd 8)) 9 (rd 9)) 10 (rd 10)) 11 (rd 11)) 12 (rd 12)) 13 (rd 13)) 14 (rd 14)) 15 (rd 15)) 16 (rd 16)))), (AM 3, .inl (cY 0, 22, .inl rd)), (AM 4, .inl (cY 0, 110, .inl kp)), (AM 5, .inl (cY 0, 8414, .inl td)), (AM 6, .inl (cY 0, 2, .inl wn)), (AM 13, .inl (cY 0, 4, .inl rw)), (AM 14, .inl (cY 0, 4, .inl br))] := hD1
  have hS := hS1
  clear hP1 hD1 hS1
  refine lv_iinc (v := 17) (lv' := [(1, .int 17), (0, .ref m0)]) hx hb dX8_load_20 hl (k := 0) rfl (by first | rfl | decide) (by decide) rfl (fun ls hl => ?_)
  refine lv_goto (tgt := 2) hx hb dX8_load_23 (by decide) ?_
  refine lv_iload_n hx hb dX8_load_2 rfl (lv_at hl 0 rfl) ?_
  refine lv_bipush (v := 22) hx hb dX8_load_3 (by decide) ?_
  refine lv_icmp_ge (tgt := 26) hx hb dX8_load_5 (by decide) (fun c_35 => ?_) (fun c_35 => ?_)
  · exact absurd c_35 (by decide)
  refine lv_aload_n hx hb dX8_load_8 rfl (lv_at hl 1 rfl) ?_
  refine va_get (D := (dC, dI)) (ci := 8) (v := .ref (AM 2)) (C := RX8) (T := TX8) (N := 17) hx hb hts inw_X8_load_X8 hown hK hP 0 rfl rfl 2 (by decide) (hts (.fieldLink RX8 13 "DuelFramesModel" "s" "[I") (List.mem_of_getElem? (i := 1) rfl)) (fun _ h9 => h9) rfl dX8_load_9 ?_
  refine lv_iload_n hx hb dX8_load_12 rfl (lv_at hl 0 rfl) ?_
  refine lv_aload_n hx hb dX8_load_13 rfl (lv_at hl 1 rfl) ?_
  refine va_get (D := (dC, dI)) (ci := 8) (v := .ref (AM 3)) (C := RX8) (T := TX8) (N := 17) hx hb hts inw_X8_load_X8 hown hK hP 0 rfl rfl 3 (by decide) (hts (.fieldLink RX8 16 "DuelFramesModel" "round" "[I") (List.mem_of_getElem? (i := 2) rfl)) (fun _ h9 => h9) rfl dX8_load_14 ?_
  refine lv_iload_n hx hb dX8_load_17 rfl (lv_at hl 0 rfl) ?_
  refine va_iald hx hb hK hP 3 0 rfl rfl (vin rfl) dX8_load_18 ?_
  refine lv_topi (fun x_36 ex_36 => ?_)
  obtain rfl : x_36 = (rd 17) := ex_36
  refine va_iast hx hb hK hP hD hS 2 0 rfl rfl (vin rfl) dX8_load_19 (fun H locs hP1 hD1 hS1 => ?_)
  clear hP hD hS
  have hP : va_P (dC, dI) vwCl [(m0, .inr (8, mdL AM g)), (AM 0, .inl (cY 0, 72, .inl tb)), (AM 2, .inl (cY 0, 22, .inl (upd (upd (upd (upd (upd (upd (upd (upd (upd (upd (upd (upd (upd (upd (upd (upd (upd (upd sA 0 (rd 0)) 1 (rd 1)) 2 (rd 2)) 3 (rd 3)) 4 (rd 4)) 5 (rd 5)) 6 (rd 6)) 7 (rd 7)) 8 (rd 8)) 9 (rd 9)) 10 (rd 10)) 11 (rd 11)) 12 (rd 12)) 13 (rd 13)) 14 (rd 14)) 15 (rd 15)) 16 (rd 16)) 17 (rd 17)))), (AM 3, .inl (cY 0, 22, .inl rd)), (AM 4, .inl (cY 0, 110, .inl kp)), (AM 5, .inl (cY 0, 8414, .inl td)), (AM 6, .inl (cY 0, 2, .inl wn)), (AM 13, .inl (cY 0, 4, .inl rw)), (AM 14, .inl (cY 0, 4, .inl br))] H := hP1
  have hD : va_D A [(m0, .inr (8, mdL AM g)), (AM 0, .inl (cY 0, 72, .inl tb)), (AM 2, .inl (cY 0, 22, .inl (upd (upd (upd (upd (upd (upd (upd (upd (upd (upd (upd (upd (upd (upd (upd (upd (upd (upd sA 0 (rd 0)) 1 (rd 1)) 2 (rd 2)) 3 (rd 3)) 4 (rd 4)) 5 (rd 5)) 6 (rd 6)) 7 (rd 7)) 8 (rd 8)) 9 (rd 9)) 10 (rd 10)) 11 (rd 11)) 12 (rd 12)) 13 (rd 13)) 14 (rd 14)) 15 (rd 15)) 16 (rd 16)) 17 (rd 17)))), (AM 3, .inl (cY 0, 22, .inl rd)), (AM 4, .inl (cY 0, 110, .inl kp)), (AM 5, .inl (cY 0, 8414, .inl td)), (AM 6, .inl (cY 0, 2, .inl wn)), (AM 13, .inl (cY 0, 4, .inl rw)), (AM 14, .inl (cY 0, 4, .inl br))] := hD1
  have hS := hS1
  clear hP1 hD1 hS1
  refine lv_iinc (v := 18) (lv' := [(1, .int 18), (0, .ref m0)]) hx hb dX8_load_20 hl (k := 0) rfl (by first | rfl | decide) (by decide) rfl (fun ls hl => ?_)
  refine lv_goto (tgt := 2) hx hb dX8_load_23 (by decide) ?_
  refine lv_iload_n hx hb dX8_load_2 rfl (lv_at hl 0 rfl) ?_
  refine lv_bipush (v := 22) hx hb dX8_load_3 (by decide) ?_
  refine lv_icmp_ge (tgt := 26) hx hb dX8_load_5 (by decide) (fun c_37 => ?_) (fun c_37 => ?_)
  · exact absurd c_37 (by decide)
  refine lv_aload_n hx hb dX8_load_8 rfl (lv_at hl 1 rfl) ?_
  refine va_get (D := (dC, dI)) (ci := 8) (v := .ref (AM 2)) (C := RX8) (T := TX8) (N := 17) hx hb hts inw_X8_load_X8 hown hK hP 0 rfl rfl 2 (by decide) (hts (.fieldLink RX8 13 "DuelFramesModel" "s" "[I") (List.mem_of_getElem? (i := 1) rfl)) (fun _ h9 => h9) rfl dX8_load_9 ?_
  refine lv_iload_n hx hb dX8_load_12 rfl (lv_at hl 0 rfl) ?_
  refine lv_aload_n hx hb dX8_load_13 rfl (lv_at hl 1 rfl) ?_
  refine va_get (D := (dC, dI)) (ci := 8) (v := .ref (AM 3)) (C := RX8) (T := TX8) (N := 17) hx hb hts inw_X8_load_X8 hown hK hP 0 rfl rfl 3 (by decide) (hts (.fieldLink RX8 16 "DuelFramesModel" "round" "[I") (List.mem_of_getElem? (i := 2) rfl)) (fun _ h9 => h9) rfl dX8_load_14 ?_
  refine lv_iload_n hx hb dX8_load_17 rfl (lv_at hl 0 rfl) ?_
  refine va_iald hx hb hK hP 3 0 rfl rfl (vin rfl) dX8_load_18 ?_
  refine lv_topi (fun x_38 ex_38 => ?_)
  obtain rfl : x_38 = (rd 18) := ex_38
  refine va_iast hx hb hK hP hD hS 2 0 rfl rfl (vin rfl) dX8_load_19 (fun H locs hP1 hD1 hS1 => ?_)
  clear hP hD hS
  have hP : va_P (dC, dI) vwCl [(m0, .inr (8, mdL AM g)), (AM 0, .inl (cY 0, 72, .inl tb)), (AM 2, .inl (cY 0, 22, .inl (upd (upd (upd (upd (upd (upd (upd (upd (upd (upd (upd (upd (upd (upd (upd (upd (upd (upd (upd sA 0 (rd 0)) 1 (rd 1)) 2 (rd 2)) 3 (rd 3)) 4 (rd 4)) 5 (rd 5)) 6 (rd 6)) 7 (rd 7)) 8 (rd 8)) 9 (rd 9)) 10 (rd 10)) 11 (rd 11)) 12 (rd 12)) 13 (rd 13)) 14 (rd 14)) 15 (rd 15)) 16 (rd 16)) 17 (rd 17)) 18 (rd 18)))), (AM 3, .inl (cY 0, 22, .inl rd)), (AM 4, .inl (cY 0, 110, .inl kp)), (AM 5, .inl (cY 0, 8414, .inl td)), (AM 6, .inl (cY 0, 2, .inl wn)), (AM 13, .inl (cY 0, 4, .inl rw)), (AM 14, .inl (cY 0, 4, .inl br))] H := hP1
  have hD : va_D A [(m0, .inr (8, mdL AM g)), (AM 0, .inl (cY 0, 72, .inl tb)), (AM 2, .inl (cY 0, 22, .inl (upd (upd (upd (upd (upd (upd (upd (upd (upd (upd (upd (upd (upd (upd (upd (upd (upd (upd (upd sA 0 (rd 0)) 1 (rd 1)) 2 (rd 2)) 3 (rd 3)) 4 (rd 4)) 5 (rd 5)) 6 (rd 6)) 7 (rd 7)) 8 (rd 8)) 9 (rd 9)) 10 (rd 10)) 11 (rd 11)) 12 (rd 12)) 13 (rd 13)) 14 (rd 14)) 15 (rd 15)) 16 (rd 16)) 17 (rd 17)) 18 (rd 18)))), (AM 3, .inl (cY 0, 22, .inl rd)), (AM 4, .inl (cY 0, 110, .inl kp)), (AM 5, .inl (cY 0, 8414, .inl td)), (AM 6, .inl (cY 0, 2, .inl wn)), (AM 13, .inl (cY 0, 4, .inl rw)), (AM 14, .inl (cY 0, 4, .inl br))] := hD1
  have hS := hS1
  clear hP1 hD1 hS1
  refine lv_iinc (v := 19) (lv' := [(1, .int 19), (0, .ref m0)]) hx hb dX8_load_20 hl (k := 0) rfl (by first | rfl | decide) (by decide) rfl (fun ls hl => ?_)
  refine lv_goto (tgt := 2) hx hb dX8_load_23 (by decide) ?_
  refine lv_iload_n hx hb dX8_load_2 rfl (lv_at hl 0 rfl) ?_
  refine lv_bipush (v := 22) hx hb dX8_load_3 (by decide) ?_
  refine lv_icmp_ge (tgt := 26) hx hb dX8_load_5 (by decide) (fun c_39 => ?_) (fun c_39 => ?_)
  · exact absurd c_39 (by decide)
  refine lv_aload_n hx hb dX8_load_8 rfl (lv_at hl 1 rfl) ?_
  refine va_get (D := (dC, dI)) (ci := 8) (v := .ref (AM 2)) (C := RX8) (T := TX8) (N := 17) hx hb hts inw_X8_load_X8 hown hK hP 0 rfl rfl 2 (by decide) (hts (.fieldLink RX8 13 "DuelFramesModel" "s" "[I") (List.mem_of_getElem? (i := 1) rfl)) (fun _ h9 => h9) rfl dX8_load_9 ?_
  refine lv_iload_n hx hb dX8_load_12 rfl (lv_at hl 0 rfl) ?_
  refine lv_aload_n hx hb dX8_load_13 rfl (lv_at hl 1 rfl) ?_
  refine va_get (D := (dC, dI)) (ci := 8) (v := .ref (AM 3)) (C := RX8) (T := TX8) (N := 17) hx hb hts inw_X8_load_X8 hown hK hP 0 rfl rfl 3 (by decide) (hts (.fieldLink RX8 16 "DuelFramesModel" "round" "[I") (List.mem_of_getElem? (i := 2) rfl)) (fun _ h9 => h9) rfl dX8_load_14 ?_
  refine lv_iload_n hx hb dX8_load_17 rfl (lv_at hl 0 rfl) ?_
  refine va_iald hx hb hK hP 3 0 rfl rfl (vin rfl) dX8_load_18 ?_
  refine lv_topi (fun x_40 ex_40 => ?_)
  obtain rfl : x_40 = (rd 19) := ex_40
  refine va_iast hx hb hK hP hD hS 2 0 rfl rfl (vin rfl) dX8_load_19 (fun H locs hP1 hD1 hS1 => ?_)
  clear hP hD hS
  have hP : va_P (dC, dI) vwCl [(m0, .inr (8, mdL AM g)), (AM 0, .inl (cY 0, 72, .inl tb)), (AM 2, .inl (cY 0, 22, .inl (upd (upd (upd (upd (upd (upd (upd (upd (upd (upd (upd (upd (upd (upd (upd (upd (upd (upd (upd (upd sA 0 (rd 0)) 1 (rd 1)) 2 (rd 2)) 3 (rd 3)) 4 (rd 4)) 5 (rd 5)) 6 (rd 6)) 7 (rd 7)) 8 (rd 8)) 9 (rd 9)) 10 (rd 10)) 11 (rd 11)) 12 (rd 12)) 13 (rd 13)) 14 (rd 14)) 15 (rd 15)) 16 (rd 16)) 17 (rd 17)) 18 (rd 18)) 19 (rd 19)))), (AM 3, .inl (cY 0, 22, .inl rd)), (AM 4, .inl (cY 0, 110, .inl kp)), (AM 5, .inl (cY 0, 8414, .inl td)), (AM 6, .inl (cY 0, 2, .inl wn)), (AM 13, .inl (cY 0, 4, .inl rw)), (AM 14, .inl (cY 0, 4, .inl br))] H := hP1
  have hD : va_D A [(m0, .inr (8, mdL AM g)), (AM 0, .inl (cY 0, 72, .inl tb)), (AM 2, .inl (cY 0, 22, .inl (upd (upd (upd (upd (upd (upd (upd (upd (upd (upd (upd (upd (upd (upd (upd (upd (upd (upd (upd (upd sA 0 (rd 0)) 1 (rd 1)) 2 (rd 2)) 3 (rd 3)) 4 (rd 4)) 5 (rd 5)) 6 (rd 6)) 7 (rd 7)) 8 (rd 8)) 9 (rd 9)) 10 (rd 10)) 11 (rd 11)) 12 (rd 12)) 13 (rd 13)) 14 (rd 14)) 15 (rd 15)) 16 (rd 16)) 17 (rd 17)) 18 (rd 18)) 19 (rd 19)))), (AM 3, .inl (cY 0, 22, .inl rd)), (AM 4, .inl (cY 0, 110, .inl kp)), (AM 5, .inl (cY 0, 8414, .inl td)), (AM 6, .inl (cY 0, 2, .inl wn)), (AM 13, .inl (cY 0, 4, .inl rw)), (AM 14, .inl (cY 0, 4, .inl br))] := hD1
  have hS := hS1
  clear hP1 hD1 hS1
  refine lv_iinc (v := 20) (lv' := [(1, .int 20), (0, .ref m0)]) hx hb dX8_load_20 hl (k := 0) rfl (by first | rfl | decide) (by decide) rfl (fun ls hl => ?_)
  refine lv_goto (tgt := 2) hx hb dX8_load_23 (by decide) ?_
  refine lv_iload_n hx hb dX8_load_2 rfl (lv_at hl 0 rfl) ?_
  refine lv_bipush (v := 22) hx hb dX8_load_3 (by decide) ?_
  refine lv_icmp_ge (tgt := 26) hx hb dX8_load_5 (by decide) (fun c_41 => ?_) (fun c_41 => ?_)
  · exact absurd c_41 (by decide)
  refine lv_aload_n hx hb dX8_load_8 rfl (lv_at hl 1 rfl) ?_
  refine va_get (D := (dC, dI)) (ci := 8) (v := .ref (AM 2)) (C := RX8) (T := TX8) (N := 17) hx hb hts inw_X8_load_X8 hown hK hP 0 rfl rfl 2 (by decide) (hts (.fieldLink RX8 13 "DuelFramesModel" "s" "[I") (List.mem_of_getElem? (i := 1) rfl)) (fun _ h9 => h9) rfl dX8_load_9 ?_
  refine lv_iload_n hx hb dX8_load_12 rfl (lv_at hl 0 rfl) ?_
  refine lv_aload_n hx hb dX8_load_13 rfl (lv_at hl 1 rfl) ?_
  refine va_get (D := (dC, dI)) (ci := 8) (v := .ref (AM 3)) (C := RX8) (T := TX8) (N := 17) hx hb hts inw_X8_load_X8 hown hK hP 0 rfl rfl 3 (by decide) (hts (.fieldLink RX8 16 "DuelFramesModel" "round" "[I") (List.mem_of_getElem? (i := 2) rfl)) (fun _ h9 => h9) rfl dX8_load_14 ?_
  refine lv_iload_n hx hb dX8_load_17 rfl (lv_at hl 0 rfl) ?_
  refine va_iald hx hb hK hP 3 0 rfl rfl (vin rfl) dX8_load_18 ?_
  refine lv_topi (fun x_42 ex_42 => ?_)
  obtain rfl : x_42 = (rd 20) := ex_42
  refine va_iast hx hb hK hP hD hS 2 0 rfl rfl (vin rfl) dX8_load_19 (fun H locs hP1 hD1 hS1 => ?_)
  clear hP hD hS
  have hP : va_P (dC, dI) vwCl [(m0, .inr (8, mdL AM g)), (AM 0, .inl (cY 0, 72, .inl tb)), (AM 2, .inl (cY 0, 22, .inl (upd (upd (upd (upd (upd (upd (upd (upd (upd (upd (upd (upd (upd (upd (upd (upd (upd (upd (upd (upd (upd sA 0 (rd 0)) 1 (rd 1)) 2 (rd 2)) 3 (rd 3)) 4 (rd 4)) 5 (rd 5)) 6 (rd 6)) 7 (rd 7)) 8 (rd 8)) 9 (rd 9)) 10 (rd 10)) 11 (rd 11)) 12 (rd 12)) 13 (rd 13)) 14 (rd 14)) 15 (rd 15)) 16 (rd 16)) 17 (rd 17)) 18 (rd 18)) 19 (rd 19)) 20 (rd 20)))), (AM 3, .inl (cY 0, 22, .inl rd)), (AM 4, .inl (cY 0, 110, .inl kp)), (AM 5, .inl (cY 0, 8414, .inl td)), (AM 6, .inl (cY 0, 2, .inl wn)), (AM 13, .inl (cY 0, 4, .inl rw)), (AM 14, .inl (cY 0, 4, .inl br))] H := hP1
  have hD : va_D A [(m0, .inr (8, mdL AM g)), (AM 0, .inl (cY 0, 72, .inl tb)), (AM 2, .inl (cY 0, 22, .inl (upd (upd (upd (upd (upd (upd (upd (upd (upd (upd (upd (upd (upd (upd (upd (upd (upd (upd (upd (upd (upd sA 0 (rd 0)) 1 (rd 1)) 2 (rd 2)) 3 (rd 3)) 4 (rd 4)) 5 (rd 5)) 6 (rd 6)) 7 (rd 7)) 8 (rd 8)) 9 (rd 9)) 10 (rd 10)) 11 (rd 11)) 12 (rd 12)) 13 (rd 13)) 14 (rd 14)) 15 (rd 15)) 16 (rd 16)) 17 (rd 17)) 18 (rd 18)) 19 (rd 19)) 20 (rd 20)))), (AM 3, .inl (cY 0, 22, .inl rd)), (AM 4, .inl (cY 0, 110, .inl kp)), (AM 5, .inl (cY 0, 8414, .inl td)), (AM 6, .inl (cY 0, 2, .inl wn)), (AM 13, .inl (cY 0, 4, .inl rw)), (AM 14, .inl (cY 0, 4, .inl br))] := hD1
  have hS := hS1
  clear hP1 hD1 hS1
  refine lv_iinc (v := 21) (lv' := [(1, .int 21), (0, .ref m0)]) hx hb dX8_load_20 hl (k := 0) rfl (by first | rfl | decide) (by decide) rfl (fun ls hl => ?_)
  refine lv_goto (tgt := 2) hx hb dX8_load_23 (by decide) ?_
  refine lv_iload_n hx hb dX8_load_2 rfl (lv_at hl 0 rfl) ?_
  refine lv_bipush (v := 22) hx hb dX8_load_3 (by decide) ?_
  refine lv_icmp_ge (tgt := 26) hx hb dX8_load_5 (by decide) (fun c_43 => ?_) (fun c_43 => ?_)
  · exact absurd c_43 (by decide)
  refine lv_aload_n hx hb dX8_load_8 rfl (lv_at hl 1 rfl) ?_
  refine va_get (D := (dC, dI)) (ci := 8) (v := .ref (AM 2)) (C := RX8) (T := TX8) (N := 17) hx hb hts inw_X8_load_X8 hown hK hP 0 rfl rfl 2 (by decide) (hts (.fieldLink RX8 13 "DuelFramesModel" "s" "[I") (List.mem_of_getElem? (i := 1) rfl)) (fun _ h9 => h9) rfl dX8_load_9 ?_
  refine lv_iload_n hx hb dX8_load_12 rfl (lv_at hl 0 rfl) ?_
  refine lv_aload_n hx hb dX8_load_13 rfl (lv_at hl 1 rfl) ?_
  refine va_get (D := (dC, dI)) (ci := 8) (v := .ref (AM 3)) (C := RX8) (T := TX8) (N := 17) hx hb hts inw_X8_load_X8 hown hK hP 0 rfl rfl 3 (by decide) (hts (.fieldLink RX8 16 "DuelFramesModel" "round" "[I") (List.mem_of_getElem? (i := 2) rfl)) (fun _ h9 => h9) rfl dX8_load_14 ?_
  refine lv_iload_n hx hb dX8_load_17 rfl (lv_at hl 0 rfl) ?_
  refine va_iald hx hb hK hP 3 0 rfl rfl (vin rfl) dX8_load_18 ?_
  refine lv_topi (fun x_44 ex_44 => ?_)
  obtain rfl : x_44 = (rd 21) := ex_44
  refine va_iast hx hb hK hP hD hS 2 0 rfl rfl (vin rfl) dX8_load_19 (fun H locs hP1 hD1 hS1 => ?_)
  clear hP hD hS
  have hP : va_P (dC, dI) vwCl [(m0, .inr (8, mdL AM g)), (AM 0, .inl (cY 0, 72, .inl tb)), (AM 2, .inl (cY 0, 22, .inl (upd (upd (upd (upd (upd (upd (upd (upd (upd (upd (upd (upd (upd (upd (upd (upd (upd (upd (upd (upd (upd (upd sA 0 (rd 0)) 1 (rd 1)) 2 (rd 2)) 3 (rd 3)) 4 (rd 4)) 5 (rd 5)) 6 (rd 6)) 7 (rd 7)) 8 (rd 8)) 9 (rd 9)) 10 (rd 10)) 11 (rd 11)) 12 (rd 12)) 13 (rd 13)) 14 (rd 14)) 15 (rd 15)) 16 (rd 16)) 17 (rd 17)) 18 (rd 18)) 19 (rd 19)) 20 (rd 20)) 21 (rd 21)))), (AM 3, .inl (cY 0, 22, .inl rd)), (AM 4, .inl (cY 0, 110, .inl kp)), (AM 5, .inl (cY 0, 8414, .inl td)), (AM 6, .inl (cY 0, 2, .inl wn)), (AM 13, .inl (cY 0, 4, .inl rw)), (AM 14, .inl (cY 0, 4, .inl br))] H := hP1
  have hD : va_D A [(m0, .inr (8, mdL AM g)), (AM 0, .inl (cY 0, 72, .inl tb)), (AM 2, .inl (cY 0, 22, .inl (upd (upd (upd (upd (upd (upd (upd (upd (upd (upd (upd (upd (upd (upd (upd (upd (upd (upd (upd (upd (upd (upd sA 0 (rd 0)) 1 (rd 1)) 2 (rd 2)) 3 (rd 3)) 4 (rd 4)) 5 (rd 5)) 6 (rd 6)) 7 (rd 7)) 8 (rd 8)) 9 (rd 9)) 10 (rd 10)) 11 (rd 11)) 12 (rd 12)) 13 (rd 13)) 14 (rd 14)) 15 (rd 15)) 16 (rd 16)) 17 (rd 17)) 18 (rd 18)) 19 (rd 19)) 20 (rd 20)) 21 (rd 21)))), (AM 3, .inl (cY 0, 22, .inl rd)), (AM 4, .inl (cY 0, 110, .inl kp)), (AM 5, .inl (cY 0, 8414, .inl td)), (AM 6, .inl (cY 0, 2, .inl wn)), (AM 13, .inl (cY 0, 4, .inl rw)), (AM 14, .inl (cY 0, 4, .inl br))] := hD1
  have hS := hS1
  clear hP1 hD1 hS1
  refine lv_iinc (v := 22) (lv' := [(1, .int 22), (0, .ref m0)]) hx hb dX8_load_20 hl (k := 0) rfl (by first | rfl | decide) (by decide) rfl (fun ls hl => ?_)
  refine lv_goto (tgt := 2) hx hb dX8_load_23 (by decide) ?_
  refine lv_iload_n hx hb dX8_load_2 rfl (lv_at hl 0 rfl) ?_
  refine lv_bipush (v := 22) hx hb dX8_load_3 (by decide) ?_
  refine lv_icmp_ge (tgt := 26) hx hb dX8_load_5 (by decide) (fun c_45 => ?_) (fun c_45 => ?_)
  rotate_left
  · exact absurd (by decide) c_45
  have eo_46 : (X8_load_w2 sA rd) = (upd (upd (upd (upd (upd (upd (upd (upd (upd (upd (upd (upd (upd (upd (upd (upd (upd (upd (upd (upd (upd (upd sA 0 (rd 0)) 1 (rd 1)) 2 (rd 2)) 3 (rd 3)) 4 (rd 4)) 5 (rd 5)) 6 (rd 6)) 7 (rd 7)) 8 (rd 8)) 9 (rd 9)) 10 (rd 10)) 11 (rd 11)) 12 (rd 12)) 13 (rd 13)) 14 (rd 14)) 15 (rd 15)) 16 (rd 16)) 17 (rd 17)) 18 (rd 18)) 19 (rd 19)) 20 (rd 20)) 21 (rd 21)) := by rw [X8_load_w2]
  have hP9 : va_P (dC, dI) vwCl [(m0, .inr (8, mdL AM g)), (AM 0, .inl (cY 0, 72, .inl tb)), (AM 2, .inl (cY 0, 22, .inl (X8_load_w2 sA rd))), (AM 3, .inl (cY 0, 22, .inl rd)), (AM 4, .inl (cY 0, 110, .inl kp)), (AM 5, .inl (cY 0, 8414, .inl td)), (AM 6, .inl (cY 0, 2, .inl wn)), (AM 13, .inl (cY 0, 4, .inl rw)), (AM 14, .inl (cY 0, 4, .inl br))] H := by simp only [eo_46]; exact hP
  have hD9 : va_D A [(m0, .inr (8, mdL AM g)), (AM 0, .inl (cY 0, 72, .inl tb)), (AM 2, .inl (cY 0, 22, .inl (X8_load_w2 sA rd))), (AM 3, .inl (cY 0, 22, .inl rd)), (AM 4, .inl (cY 0, 110, .inl kp)), (AM 5, .inl (cY 0, 8414, .inl td)), (AM 6, .inl (cY 0, 2, .inl wn)), (AM 13, .inl (cY 0, 4, .inl rw)), (AM 14, .inl (cY 0, 4, .inl br))] := by simp only [eo_46]; exact hD
  exact W.vret hx hb hr (fun t ht hW => ⟨⟨(), rfl, trivial, wPost_of hP9 hD9 ht⟩, hS.F ht⟩) hS.2.2 dX8_load_26
theorem inw_X8_store_X8 : ∀ w ∈ u_ws RX8 TX8 17, w ∈ wsX8_store := fun _ h => List.mem_cons_of_mem _ (List.mem_append_right _ h)
def X8_store_w3 (sA : Nat → Int32) (rd : Nat → Int32) : Nat → Int32 := (upd (upd (upd (upd (upd (upd (upd (upd (upd (upd (upd (upd (upd (upd (upd (upd (upd (upd (upd (upd (upd (upd rd 0 (sA 0)) 1 (sA 1)) 2 (sA 2)) 3 (sA 3)) 4 (sA 4)) 5 (sA 5)) 6 (sA 6)) 7 (sA 7)) 8 (sA 8)) 9 (sA 9)) 10 (sA 10)) 11 (sA 11)) 12 (sA 12)) 13 (sA 13)) 14 (sA 14)) 15 (sA 15)) 16 (sA 16)) 17 (sA 17)) 18 (sA 18)) 19 (sA 19)) 20 (sA 20)) 21 (sA 21))
def X8_store_w5 (g : Nat → Int32) (sA : Nat → Int32) (td : Nat → Int32) : Nat → Int32 := (upd (upd (upd (upd (upd (upd (upd (upd (upd (upd (upd (upd (upd (upd td ((14 * (g 7)) + 0).toNatClampNeg (sA 0)) (((14 * (g 7)) + 7) + 0).toNatClampNeg (sA 11)) ((14 * (g 7)) + 1).toNatClampNeg (sA 1)) (((14 * (g 7)) + 7) + 1).toNatClampNeg (sA 12)) ((14 * (g 7)) + 2).toNatClampNeg (sA 2)) (((14 * (g 7)) + 7) + 2).toNatClampNeg (sA 13)) ((14 * (g 7)) + 3).toNatClampNeg (sA 3)) (((14 * (g 7)) + 7) + 3).toNatClampNeg (sA 14)) ((14 * (g 7)) + 4).toNatClampNeg (sA 4)) (((14 * (g 7)) + 7) + 4).toNatClampNeg (sA 15)) ((14 * (g 7)) + 5).toNatClampNeg (sA 5)) (((14 * (g 7)) + 7) + 5).toNatClampNeg (sA 16)) ((14 * (g 7)) + 6).toNatClampNeg (sA 6)) (((14 * (g 7)) + 7) + 6).toNatClampNeg (sA 17))
set_option maxHeartbeats 4000000 in
set_option maxRecDepth 100000 in
theorem c_X8_store (l : Launch) (dC : Nat → ClassId) (dI : Nat → Nat → Nat) (cY : Nat → ClassId) (m0 : Nat) (AM : Nat → Nat) (g : Nat → Int32) (tb : Nat → Int32) (sA : Nat → Int32) (rd : Nat → Int32) (kp : Nat → Int32) (td : Nat → Int32) (wn : Nat → Int32) (rw : Nat → Int32) (br : Nat → Int32) (hfr : vp_in (g 7) 601) (sz : Nat) : Met l yX8_store wsX8_store ({ frames := 0, cells := 0, slots := 0, locals := 0 } : Room) (va_Pc [.ref m0] (wPre (dC, dI) (tyL cY) [(m0, .inr (8, mdL AM g)), (AM 0, .inl (cY 0, 72, .inl tb)), (AM 2, .inl (cY 0, 22, .inl sA)), (AM 3, .inl (cY 0, 22, .inl rd)), (AM 4, .inl (cY 0, 110, .inl kp)), (AM 5, .inl (cY 0, 8414, .inl td)), (AM 6, .inl (cY 0, 2, .inl wn)), (AM 13, .inl (cY 0, 4, .inl rw)), (AM 14, .inl (cY 0, 4, .inl br))] sz)) (va_Qv (fun _ : Unit => True) (wPost (dC, dI) [(m0, .inr (8, mdL AM g)), (AM 0, .inl (cY 0, 72, .inl tb)), (AM 2, .inl (cY 0, 22, .inl sA)), (AM 3, .inl (cY 0, 22, .inl (X8_store_w3 sA rd))), (AM 4, .inl (cY 0, 110, .inl kp)), (AM 5, .inl (cY 0, 8414, .inl (X8_store_w5 g sA td))), (AM 6, .inl (cY 0, 2, .inl wn)), (AM 13, .inl (cY 0, 4, .inl rw)), (AM 14, .inl (cY 0, 4, .inl br))] (va_A [(m0, .inr (8, mdL AM g)), (AM 0, .inl (cY 0, 72, .inl tb)), (AM 2, .inl (cY 0, 22, .inl sA)), (AM 3, .inl (cY 0, 22, .inl rd)), (AM 4, .inl (cY 0, 110, .inl kp)), (AM 5, .inl (cY 0, 8414, .inl td)), (AM 6, .inl (cY 0, 2, .inl wn)), (AM 13, .inl (cY 0, 4, .inl rw)), (AM 14, .inl (cY 0, 4, .inl br))] sz)) (va_A [(m0, .inr (8, mdL AM g)), (AM 0, .inl (cY 0, 72, .inl tb)), (AM 2, .inl (cY 0, 22, .inl sA)), (AM 3, .inl (cY 0, 22, .inl rd)), (AM 4, .inl (cY 0, 110, .inl kp)), (AM 5, .inl (cY 0, 8414, .inl td)), (AM 6, .inl (cY 0, 2, .inl wn)), (AM 13, .inl (cY 0, 4, .inl rw)), (AM 14, .inl (cY 0, 4, .inl br))] sz)) 0 0 (va_A [(m0, .inr (8, mdL AM g)), (AM 0, .inl (cY 0, 72, .inl tb)), (AM 2, .inl (cY 0, 22, .inl sA)), (AM 3, .inl (cY 0, 22, .inl rd)), (AM 4, .inl (cY 0, 110, .inl kp)), (AM 5, .inl (cY 0, 8414, .inl td)), (AM 6, .inl (cY 0, 2, .inl wn)), (AM 13, .inl (cY 0, 4, .inl rw)), (AM 14, .inl (cY 0, 4, .inl br))] sz) := by
  refine Met.ofW (cc := cX8_store) (maxL := 2) (ret := none) (by decide) rfl ?_
  intro p e s m args below meth c s₁ B hml hv
  obtain ⟨rfl, hsz, hP, hK, hN, hD0⟩ := hv
  have hx := B.exec
  have hb := B.bytes
  have hr := B.returns
  have hts := atoms_spec (ws := wsX8_store) B.pre
  have hown : s.vm.findClass RX8 = some m.cls := findClass_of_methodNamed B.named
  have hlocks := B.notSynchronized
  subst hsz
  have hD := hD0.self (sz := s.heap.size)
  generalize hAe : va_A [(m0, .inr (8, mdL AM g)), (AM 0, .inl (cY 0, 72, .inl tb)), (AM 2, .inl (cY 0, 22, .inl sA)), (AM 3, .inl (cY 0, 22, .inl rd)), (AM 4, .inl (cY 0, 110, .inl kp)), (AM 5, .inl (cY 0, 8414, .inl td)), (AM 6, .inl (cY 0, 2, .inl wn)), (AM 13, .inl (cY 0, 4, .inl rw)), (AM 14, .inl (cY 0, 4, .inl br))] s.heap.size = A at hD ⊢
  have hA : ∀ q : Nat, s.heap.size ≤ q → A q := fun q h => by rw [← hAe]; exact Or.inr h
  have hS : va_S A s.heap s.heap [] := va_S.rf
  have hP : va_P (dC, dI) vwCl [(m0, .inr (8, mdL AM g)), (AM 0, .inl (cY 0, 72, .inl tb)), (AM 2, .inl (cY 0, 22, .inl sA)), (AM 3, .inl (cY 0, 22, .inl rd)), (AM 4, .inl (cY 0, 110, .inl kp)), (AM 5, .inl (cY 0, 8414, .inl td)), (AM 6, .inl (cY 0, 2, .inl wn)), (AM 13, .inl (cY 0, 4, .inl rw)), (AM 14, .inl (cY 0, 4, .inl br))] s.heap := hP
  have hl := lv_entry ([.ref m0]) (n := 2) (Nat.le_of_ble_eq_true rfl)
  rw [lg_entry_eq]
  generalize (lg_sl ([.ref m0]) ++ List.replicate (2 - (lg_sl ([.ref m0])).length) Slot.unset).toArray = ls at hl ⊢
  have hl : lv_has ls 2 [(0, .ref m0)] := hl
  refine lv_iconst (v := 0) hx hb dX8_store_0 (by decide) ?_
  refine lv_istore_n (lv' := [(1, .int 0), (0, .ref m0)]) hx hb dX8_store_1 rfl hl (by decide) rfl (fun ls hl => ?_)
  refine lv_iload_n hx hb dX8_store_2 rfl (lv_at hl 0 rfl) ?_
  refine lv_bipush (v := 22) hx hb dX8_store_3 (by decide) ?_
  refine lv_icmp_ge (tgt := 26) hx hb dX8_store_5 (by decide) (fun c_1 => ?_) (fun c_1 => ?_)
  · exact absurd c_1 (by decide)
  refine lv_aload_n hx hb dX8_store_8 rfl (lv_at hl 1 rfl) ?_
  refine va_get (D := (dC, dI)) (ci := 8) (v := .ref (AM 3)) (C := RX8) (T := TX8) (N := 17) hx hb hts inw_X8_store_X8 hown hK hP 0 rfl rfl 3 (by decide) (hts (.fieldLink RX8 16 "DuelFramesModel" "round" "[I") (List.mem_of_getElem? (i := 1) rfl)) (fun _ h9 => h9) rfl dX8_store_9 ?_
  refine lv_iload_n hx hb dX8_store_12 rfl (lv_at hl 0 rfl) ?_
  refine lv_aload_n hx hb dX8_store_13 rfl (lv_at hl 1 rfl) ?_
  refine va_get (D := (dC, dI)) (ci := 8) (v := .ref (AM 2)) (C := RX8) (T := TX8) (N := 17) hx hb hts inw_X8_store_X8 hown hK hP 0 rfl rfl 2 (by decide) (hts (.fieldLink RX8 13 "DuelFramesModel" "s" "[I") (List.mem_of_getElem? (i := 2) rfl)) (fun _ h9 => h9) rfl dX8_store_14 ?_
  refine lv_iload_n hx hb dX8_store_17 rfl (lv_at hl 0 rfl) ?_
  refine va_iald hx hb hK hP 2 0 rfl rfl (vin rfl) dX8_store_18 ?_
  refine lv_topi (fun x_2 ex_2 => ?_)
  obtain rfl : x_2 = (sA 0) := ex_2
  refine va_iast hx hb hK hP hD hS 3 0 rfl rfl (vin rfl) dX8_store_19 (fun H locs hP1 hD1 hS1 => ?_)
  clear hP hD hS
  have hP : va_P (dC, dI) vwCl [(m0, .inr (8, mdL AM g)), (AM 0, .inl (cY 0, 72, .inl tb)), (AM 2, .inl (cY 0, 22, .inl sA)), (AM 3, .inl (cY 0, 22, .inl (upd rd 0 (sA 0)))), (AM 4, .inl (cY 0, 110, .inl kp)), (AM 5, .inl (cY 0, 8414, .inl td)), (AM 6, .inl (cY 0, 2, .inl wn)), (AM 13, .inl (cY 0, 4, .inl rw)), (AM 14, .inl (cY 0, 4, .inl br))] H := hP1
  have hD : va_D A [(m0, .inr (8, mdL AM g)), (AM 0, .inl (cY 0, 72, .inl tb)), (AM 2, .inl (cY 0, 22, .inl sA)), (AM 3, .inl (cY 0, 22, .inl (upd rd 0 (sA 0)))), (AM 4, .inl (cY 0, 110, .inl kp)), (AM 5, .inl (cY 0, 8414, .inl td)), (AM 6, .inl (cY 0, 2, .inl wn)), (AM 13, .inl (cY 0, 4, .inl rw)), (AM 14, .inl (cY 0, 4, .inl br))] := hD1
  have hS := hS1
  clear hP1 hD1 hS1
  refine lv_iinc (v := 1) (lv' := [(1, .int 1), (0, .ref m0)]) hx hb dX8_store_20 hl (k := 0) rfl (by first | rfl | decide) (by decide) rfl (fun ls hl => ?_)
  refine lv_goto (tgt := 2) hx hb dX8_store_23 (by decide) ?_
  refine lv_iload_n hx hb dX8_store_2 rfl (lv_at hl 0 rfl) ?_
  refine lv_bipush (v := 22) hx hb dX8_store_3 (by decide) ?_
  refine lv_icmp_ge (tgt := 26) hx hb dX8_store_5 (by decide) (fun c_3 => ?_) (fun c_3 => ?_)
  · exact absurd c_3 (by decide)
  refine lv_aload_n hx hb dX8_store_8 rfl (lv_at hl 1 rfl) ?_
  refine va_get (D := (dC, dI)) (ci := 8) (v := .ref (AM 3)) (C := RX8) (T := TX8) (N := 17) hx hb hts inw_X8_store_X8 hown hK hP 0 rfl rfl 3 (by decide) (hts (.fieldLink RX8 16 "DuelFramesModel" "round" "[I") (List.mem_of_getElem? (i := 1) rfl)) (fun _ h9 => h9) rfl dX8_store_9 ?_
  refine lv_iload_n hx hb dX8_store_12 rfl (lv_at hl 0 rfl) ?_
  refine lv_aload_n hx hb dX8_store_13 rfl (lv_at hl 1 rfl) ?_
  refine va_get (D := (dC, dI)) (ci := 8) (v := .ref (AM 2)) (C := RX8) (T := TX8) (N := 17) hx hb hts inw_X8_store_X8 hown hK hP 0 rfl rfl 2 (by decide) (hts (.fieldLink RX8 13 "DuelFramesModel" "s" "[I") (List.mem_of_getElem? (i := 2) rfl)) (fun _ h9 => h9) rfl dX8_store_14 ?_
  refine lv_iload_n hx hb dX8_store_17 rfl (lv_at hl 0 rfl) ?_
  refine va_iald hx hb hK hP 2 0 rfl rfl (vin rfl) dX8_store_18 ?_
  refine lv_topi (fun x_4 ex_4 => ?_)
  obtain rfl : x_4 = (sA 1) := ex_4
  refine va_iast hx hb hK hP hD hS 3 0 rfl rfl (vin rfl) dX8_store_19 (fun H locs hP1 hD1 hS1 => ?_)
  clear hP hD hS
  have hP : va_P (dC, dI) vwCl [(m0, .inr (8, mdL AM g)), (AM 0, .inl (cY 0, 72, .inl tb)), (AM 2, .inl (cY 0, 22, .inl sA)), (AM 3, .inl (cY 0, 22, .inl (upd (upd rd 0 (sA 0)) 1 (sA 1)))), (AM 4, .inl (cY 0, 110, .inl kp)), (AM 5, .inl (cY 0, 8414, .inl td)), (AM 6, .inl (cY 0, 2, .inl wn)), (AM 13, .inl (cY 0, 4, .inl rw)), (AM 14, .inl (cY 0, 4, .inl br))] H := hP1
  have hD : va_D A [(m0, .inr (8, mdL AM g)), (AM 0, .inl (cY 0, 72, .inl tb)), (AM 2, .inl (cY 0, 22, .inl sA)), (AM 3, .inl (cY 0, 22, .inl (upd (upd rd 0 (sA 0)) 1 (sA 1)))), (AM 4, .inl (cY 0, 110, .inl kp)), (AM 5, .inl (cY 0, 8414, .inl td)), (AM 6, .inl (cY 0, 2, .inl wn)), (AM 13, .inl (cY 0, 4, .inl rw)), (AM 14, .inl (cY 0, 4, .inl br))] := hD1
  have hS := hS1
  clear hP1 hD1 hS1
  refine lv_iinc (v := 2) (lv' := [(1, .int 2), (0, .ref m0)]) hx hb dX8_store_20 hl (k := 0) rfl (by first | rfl | decide) (by decide) rfl (fun ls hl => ?_)
  refine lv_goto (tgt := 2) hx hb dX8_store_23 (by decide) ?_
  refine lv_iload_n hx hb dX8_store_2 rfl (lv_at hl 0 rfl) ?_
  refine lv_bipush (v := 22) hx hb dX8_store_3 (by decide) ?_
  refine lv_icmp_ge (tgt := 26) hx hb dX8_store_5 (by decide) (fun c_5 => ?_) (fun c_5 => ?_)
  · exact absurd c_5 (by decide)
  refine lv_aload_n hx hb dX8_store_8 rfl (lv_at hl 1 rfl) ?_
  refine va_get (D := (dC, dI)) (ci := 8) (v := .ref (AM 3)) (C := RX8) (T := TX8) (N := 17) hx hb hts inw_X8_store_X8 hown hK hP 0 rfl rfl 3 (by decide) (hts (.fieldLink RX8 16 "DuelFramesModel" "round" "[I") (List.mem_of_getElem? (i := 1) rfl)) (fun _ h9 => h9) rfl dX8_store_9 ?_
  refine lv_iload_n hx hb dX8_store_12 rfl (lv_at hl 0 rfl) ?_
  refine lv_aload_n hx hb dX8_store_13 rfl (lv_at hl 1 rfl) ?_
  refine va_get (D := (dC, dI)) (ci := 8) (v := .ref (AM 2)) (C := RX8) (T := TX8) (N := 17) hx hb hts inw_X8_store_X8 hown hK hP 0 rfl rfl 2 (by decide) (hts (.fieldLink RX8 13 "DuelFramesModel" "s" "[I") (List.mem_of_getElem? (i := 2) rfl)) (fun _ h9 => h9) rfl dX8_store_14 ?_
  refine lv_iload_n hx hb dX8_store_17 rfl (lv_at hl 0 rfl) ?_
  refine va_iald hx hb hK hP 2 0 rfl rfl (vin rfl) dX8_store_18 ?_
  refine lv_topi (fun x_6 ex_6 => ?_)
  obtain rfl : x_6 = (sA 2) := ex_6
  refine va_iast hx hb hK hP hD hS 3 0 rfl rfl (vin rfl) dX8_store_19 (fun H locs hP1 hD1 hS1 => ?_)
  clear hP hD hS
  have hP : va_P (dC, dI) vwCl [(m0, .inr (8, mdL AM g)), (AM 0, .inl (cY 0, 72, .inl tb)), (AM 2, .inl (cY 0, 22, .inl sA)), (AM 3, .inl (cY 0, 22, .inl (upd (upd (upd rd 0 (sA 0)) 1 (sA 1)) 2 (sA 2)))), (AM 4, .inl (cY 0, 110, .inl kp)), (AM 5, .inl (cY 0, 8414, .inl td)), (AM 6, .inl (cY 0, 2, .inl wn)), (AM 13, .inl (cY 0, 4, .inl rw)), (AM 14, .inl (cY 0, 4, .inl br))] H := hP1
  have hD : va_D A [(m0, .inr (8, mdL AM g)), (AM 0, .inl (cY 0, 72, .inl tb)), (AM 2, .inl (cY 0, 22, .inl sA)), (AM 3, .inl (cY 0, 22, .inl (upd (upd (upd rd 0 (sA 0)) 1 (sA 1)) 2 (sA 2)))), (AM 4, .inl (cY 0, 110, .inl kp)), (AM 5, .inl (cY 0, 8414, .inl td)), (AM 6, .inl (cY 0, 2, .inl wn)), (AM 13, .inl (cY 0, 4, .inl rw)), (AM 14, .inl (cY 0, 4, .inl br))] := hD1
  have hS := hS1
  clear hP1 hD1 hS1
  refine lv_iinc (v := 3) (lv' := [(1, .int 3), (0, .ref m0)]) hx hb dX8_store_20 hl (k := 0) rfl (by first | rfl | decide) (by decide) rfl (fun ls hl => ?_)
  refine lv_goto (tgt := 2) hx hb dX8_store_23 (by decide) ?_
  refine lv_iload_n hx hb dX8_store_2 rfl (lv_at hl 0 rfl) ?_
  refine lv_bipush (v := 22) hx hb dX8_store_3 (by decide) ?_
  refine lv_icmp_ge (tgt := 26) hx hb dX8_store_5 (by decide) (fun c_7 => ?_) (fun c_7 => ?_)
  · exact absurd c_7 (by decide)
  refine lv_aload_n hx hb dX8_store_8 rfl (lv_at hl 1 rfl) ?_
  refine va_get (D := (dC, dI)) (ci := 8) (v := .ref (AM 3)) (C := RX8) (T := TX8) (N := 17) hx hb hts inw_X8_store_X8 hown hK hP 0 rfl rfl 3 (by decide) (hts (.fieldLink RX8 16 "DuelFramesModel" "round" "[I") (List.mem_of_getElem? (i := 1) rfl)) (fun _ h9 => h9) rfl dX8_store_9 ?_
  refine lv_iload_n hx hb dX8_store_12 rfl (lv_at hl 0 rfl) ?_
  refine lv_aload_n hx hb dX8_store_13 rfl (lv_at hl 1 rfl) ?_
  refine va_get (D := (dC, dI)) (ci := 8) (v := .ref (AM 2)) (C := RX8) (T := TX8) (N := 17) hx hb hts inw_X8_store_X8 hown hK hP 0 rfl rfl 2 (by decide) (hts (.fieldLink RX8 13 "DuelFramesModel" "s" "[I") (List.mem_of_getElem? (i := 2) rfl)) (fun _ h9 => h9) rfl dX8_store_14 ?_
  refine lv_iload_n hx hb dX8_store_17 rfl (lv_at hl 0 rfl) ?_
  refine va_iald hx hb hK hP 2 0 rfl rfl (vin rfl) dX8_store_18 ?_
  refine lv_topi (fun x_8 ex_8 => ?_)
  obtain rfl : x_8 = (sA 3) := ex_8
  refine va_iast hx hb hK hP hD hS 3 0 rfl rfl (vin rfl) dX8_store_19 (fun H locs hP1 hD1 hS1 => ?_)
  clear hP hD hS
  have hP : va_P (dC, dI) vwCl [(m0, .inr (8, mdL AM g)), (AM 0, .inl (cY 0, 72, .inl tb)), (AM 2, .inl (cY 0, 22, .inl sA)), (AM 3, .inl (cY 0, 22, .inl (upd (upd (upd (upd rd 0 (sA 0)) 1 (sA 1)) 2 (sA 2)) 3 (sA 3)))), (AM 4, .inl (cY 0, 110, .inl kp)), (AM 5, .inl (cY 0, 8414, .inl td)), (AM 6, .inl (cY 0, 2, .inl wn)), (AM 13, .inl (cY 0, 4, .inl rw)), (AM 14, .inl (cY 0, 4, .inl br))] H := hP1
  have hD : va_D A [(m0, .inr (8, mdL AM g)), (AM 0, .inl (cY 0, 72, .inl tb)), (AM 2, .inl (cY 0, 22, .inl sA)), (AM 3, .inl (cY 0, 22, .inl (upd (upd (upd (upd rd 0 (sA 0)) 1 (sA 1)) 2 (sA 2)) 3 (sA 3)))), (AM 4, .inl (cY 0, 110, .inl kp)), (AM 5, .inl (cY 0, 8414, .inl td)), (AM 6, .inl (cY 0, 2, .inl wn)), (AM 13, .inl (cY 0, 4, .inl rw)), (AM 14, .inl (cY 0, 4, .inl br))] := hD1
  have hS := hS1
  clear hP1 hD1 hS1
  refine lv_iinc (v := 4) (lv' := [(1, .int 4), (0, .ref m0)]) hx hb dX8_store_20 hl (k := 0) rfl (by first | rfl | decide) (by decide) rfl (fun ls hl => ?_)
  refine lv_goto (tgt := 2) hx hb dX8_store_23 (by decide) ?_
  refine lv_iload_n hx hb dX8_store_2 rfl (lv_at hl 0 rfl) ?_
  refine lv_bipush (v := 22) hx hb dX8_store_3 (by decide) ?_
  refine lv_icmp_ge (tgt := 26) hx hb dX8_store_5 (by decide) (fun c_9 => ?_) (fun c_9 => ?_)
  · exact absurd c_9 (by decide)
  refine lv_aload_n hx hb dX8_store_8 rfl (lv_at hl 1 rfl) ?_
  refine va_get (D := (dC, dI)) (ci := 8) (v := .ref (AM 3)) (C := RX8) (T := TX8) (N := 17) hx hb hts inw_X8_store_X8 hown hK hP 0 rfl rfl 3 (by decide) (hts (.fieldLink RX8 16 "DuelFramesModel" "round" "[I") (List.mem_of_getElem? (i := 1) rfl)) (fun _ h9 => h9) rfl dX8_store_9 ?_
  refine lv_iload_n hx hb dX8_store_12 rfl (lv_at hl 0 rfl) ?_
  refine lv_aload_n hx hb dX8_store_13 rfl (lv_at hl 1 rfl) ?_
  refine va_get (D := (dC, dI)) (ci := 8) (v := .ref (AM 2)) (C := RX8) (T := TX8) (N := 17) hx hb hts inw_X8_store_X8 hown hK hP 0 rfl rfl 2 (by decide) (hts (.fieldLink RX8 13 "DuelFramesModel" "s" "[I") (List.mem_of_getElem? (i := 2) rfl)) (fun _ h9 => h9) rfl dX8_store_14 ?_
  refine lv_iload_n hx hb dX8_store_17 rfl (lv_at hl 0 rfl) ?_
  refine va_iald hx hb hK hP 2 0 rfl rfl (vin rfl) dX8_store_18 ?_
  refine lv_topi (fun x_10 ex_10 => ?_)
  obtain rfl : x_10 = (sA 4) := ex_10
  refine va_iast hx hb hK hP hD hS 3 0 rfl rfl (vin rfl) dX8_store_19 (fun H locs hP1 hD1 hS1 => ?_)
  clear hP hD hS
  have hP : va_P (dC, dI) vwCl [(m0, .inr (8, mdL AM g)), (AM 0, .inl (cY 0, 72, .inl tb)), (AM 2, .inl (cY 0, 22, .inl sA)), (AM 3, .inl (cY 0, 22, .inl (upd (upd (upd (upd (upd rd 0 (sA 0)) 1 (sA 1)) 2 (sA 2)) 3 (sA 3)) 4 (sA 4)))), (AM 4, .inl (cY 0, 110, .inl kp)), (AM 5, .inl (cY 0, 8414, .inl td)), (AM 6, .inl (cY 0, 2, .inl wn)), (AM 13, .inl (cY 0, 4, .inl rw)), (AM 14, .inl (cY 0, 4, .inl br))] H := hP1
  have hD : va_D A [(m0, .inr (8, mdL AM g)), (AM 0, .inl (cY 0, 72, .inl tb)), (AM 2, .inl (cY 0, 22, .inl sA)), (AM 3, .inl (cY 0, 22, .inl (upd (upd (upd (upd (upd rd 0 (sA 0)) 1 (sA 1)) 2 (sA 2)) 3 (sA 3)) 4 (sA 4)))), (AM 4, .inl (cY 0, 110, .inl kp)), (AM 5, .inl (cY 0, 8414, .inl td)), (AM 6, .inl (cY 0, 2, .inl wn)), (AM 13, .inl (cY 0, 4, .inl rw)), (AM 14, .inl (cY 0, 4, .inl br))] := hD1
  have hS := hS1
  clear hP1 hD1 hS1
  refine lv_iinc (v := 5) (lv' := [(1, .int 5), (0, .ref m0)]) hx hb dX8_store_20 hl (k := 0) rfl (by first | rfl | decide) (by decide) rfl (fun ls hl => ?_)
  refine lv_goto (tgt := 2) hx hb dX8_store_23 (by decide) ?_
  refine lv_iload_n hx hb dX8_store_2 rfl (lv_at hl 0 rfl) ?_
  refine lv_bipush (v := 22) hx hb dX8_store_3 (by decide) ?_
  refine lv_icmp_ge (tgt := 26) hx hb dX8_store_5 (by decide) (fun c_11 => ?_) (fun c_11 => ?_)
  · exact absurd c_11 (by decide)
  refine lv_aload_n hx hb dX8_store_8 rfl (lv_at hl 1 rfl) ?_
  refine va_get (D := (dC, dI)) (ci := 8) (v := .ref (AM 3)) (C := RX8) (T := TX8) (N := 17) hx hb hts inw_X8_store_X8 hown hK hP 0 rfl rfl 3 (by decide) (hts (.fieldLink RX8 16 "DuelFramesModel" "round" "[I") (List.mem_of_getElem? (i := 1) rfl)) (fun _ h9 => h9) rfl dX8_store_9 ?_
  refine lv_iload_n hx hb dX8_store_12 rfl (lv_at hl 0 rfl) ?_
  refine lv_aload_n hx hb dX8_store_13 rfl (lv_at hl 1 rfl) ?_
  refine va_get (D := (dC, dI)) (ci := 8) (v := .ref (AM 2)) (C := RX8) (T := TX8) (N := 17) hx hb hts inw_X8_store_X8 hown hK hP 0 rfl rfl 2 (by decide) (hts (.fieldLink RX8 13 "DuelFramesModel" "s" "[I") (List.mem_of_getElem? (i := 2) rfl)) (fun _ h9 => h9) rfl dX8_store_14 ?_
  refine lv_iload_n hx hb dX8_store_17 rfl (lv_at hl 0 rfl) ?_
  refine va_iald hx hb hK hP 2 0 rfl rfl (vin rfl) dX8_store_18 ?_
  refine lv_topi (fun x_12 ex_12 => ?_)
  obtain rfl : x_12 = (sA 5) := ex_12
  refine va_iast hx hb hK hP hD hS 3 0 rfl rfl (vin rfl) dX8_store_19 (fun H locs hP1 hD1 hS1 => ?_)
  clear hP hD hS
  have hP : va_P (dC, dI) vwCl [(m0, .inr (8, mdL AM g)), (AM 0, .inl (cY 0, 72, .inl tb)), (AM 2, .inl (cY 0, 22, .inl sA)), (AM 3, .inl (cY 0, 22, .inl (upd (upd (upd (upd (upd (upd rd 0 (sA 0)) 1 (sA 1)) 2 (sA 2)) 3 (sA 3)) 4 (sA 4)) 5 (sA 5)))), (AM 4, .inl (cY 0, 110, .inl kp)), (AM 5, .inl (cY 0, 8414, .inl td)), (AM 6, .inl (cY 0, 2, .inl wn)), (AM 13, .inl (cY 0, 4, .inl rw)), (AM 14, .inl (cY 0, 4, .inl br))] H := hP1
  have hD : va_D A [(m0, .inr (8, mdL AM g)), (AM 0, .inl (cY 0, 72, .inl tb)), (AM 2, .inl (cY 0, 22, .inl sA)), (AM 3, .inl (cY 0, 22, .inl (upd (upd (upd (upd (upd (upd rd 0 (sA 0)) 1 (sA 1)) 2 (sA 2)) 3 (sA 3)) 4 (sA 4)) 5 (sA 5)))), (AM 4, .inl (cY 0, 110, .inl kp)), (AM 5, .inl (cY 0, 8414, .inl td)), (AM 6, .inl (cY 0, 2, .inl wn)), (AM 13, .inl (cY 0, 4, .inl rw)), (AM 14, .inl (cY 0, 4, .inl br))] := hD1
  have hS := hS1
  clear hP1 hD1 hS1
  refine lv_iinc (v := 6) (lv' := [(1, .int 6), (0, .ref m0)]) hx hb dX8_store_20 hl (k := 0) rfl (by first | rfl | decide) (by decide) rfl (fun ls hl => ?_)
  refine lv_goto (tgt := 2) hx hb dX8_store_23 (by decide) ?_
  refine lv_iload_n hx hb dX8_store_2 rfl (lv_at hl 0 rfl) ?_
  refine lv_bipush (v := 22) hx hb dX8_store_3 (by decide) ?_
  refine lv_icmp_ge (tgt := 26) hx hb dX8_store_5 (by decide) (fun c_13 => ?_) (fun c_13 => ?_)
  · exact absurd c_13 (by decide)
  refine lv_aload_n hx hb dX8_store_8 rfl (lv_at hl 1 rfl) ?_
  refine va_get (D := (dC, dI)) (ci := 8) (v := .ref (AM 3)) (C := RX8) (T := TX8) (N := 17) hx hb hts inw_X8_store_X8 hown hK hP 0 rfl rfl 3 (by decide) (hts (.fieldLink RX8 16 "DuelFramesModel" "round" "[I") (List.mem_of_getElem? (i := 1) rfl)) (fun _ h9 => h9) rfl dX8_store_9 ?_
  refine lv_iload_n hx hb dX8_store_12 rfl (lv_at hl 0 rfl) ?_
  refine lv_aload_n hx hb dX8_store_13 rfl (lv_at hl 1 rfl) ?_
  refine va_get (D := (dC, dI)) (ci := 8) (v := .ref (AM 2)) (C := RX8) (T := TX8) (N := 17) hx hb hts inw_X8_store_X8 hown hK hP 0 rfl rfl 2 (by decide) (hts (.fieldLink RX8 13 "DuelFramesModel" "s" "[I") (List.mem_of_getElem? (i := 2) rfl)) (fun _ h9 => h9) rfl dX8_store_14 ?_
  refine lv_iload_n hx hb dX8_store_17 rfl (lv_at hl 0 rfl) ?_
  refine va_iald hx hb hK hP 2 0 rfl rfl (vin rfl) dX8_store_18 ?_
  refine lv_topi (fun x_14 ex_14 => ?_)
  obtain rfl : x_14 = (sA 6) := ex_14
  refine va_iast hx hb hK hP hD hS 3 0 rfl rfl (vin rfl) dX8_store_19 (fun H locs hP1 hD1 hS1 => ?_)
  clear hP hD hS
  have hP : va_P (dC, dI) vwCl [(m0, .inr (8, mdL AM g)), (AM 0, .inl (cY 0, 72, .inl tb)), (AM 2, .inl (cY 0, 22, .inl sA)), (AM 3, .inl (cY 0, 22, .inl (upd (upd (upd (upd (upd (upd (upd rd 0 (sA 0)) 1 (sA 1)) 2 (sA 2)) 3 (sA 3)) 4 (sA 4)) 5 (sA 5)) 6 (sA 6)))), (AM 4, .inl (cY 0, 110, .inl kp)), (AM 5, .inl (cY 0, 8414, .inl td)), (AM 6, .inl (cY 0, 2, .inl wn)), (AM 13, .inl (cY 0, 4, .inl rw)), (AM 14, .inl (cY 0, 4, .inl br))] H := hP1
  have hD : va_D A [(m0, .inr (8, mdL AM g)), (AM 0, .inl (cY 0, 72, .inl tb)), (AM 2, .inl (cY 0, 22, .inl sA)), (AM 3, .inl (cY 0, 22, .inl (upd (upd (upd (upd (upd (upd (upd rd 0 (sA 0)) 1 (sA 1)) 2 (sA 2)) 3 (sA 3)) 4 (sA 4)) 5 (sA 5)) 6 (sA 6)))), (AM 4, .inl (cY 0, 110, .inl kp)), (AM 5, .inl (cY 0, 8414, .inl td)), (AM 6, .inl (cY 0, 2, .inl wn)), (AM 13, .inl (cY 0, 4, .inl rw)), (AM 14, .inl (cY 0, 4, .inl br))] := hD1
  have hS := hS1
  clear hP1 hD1 hS1
  refine lv_iinc (v := 7) (lv' := [(1, .int 7), (0, .ref m0)]) hx hb dX8_store_20 hl (k := 0) rfl (by first | rfl | decide) (by decide) rfl (fun ls hl => ?_)
  refine lv_goto (tgt := 2) hx hb dX8_store_23 (by decide) ?_
  refine lv_iload_n hx hb dX8_store_2 rfl (lv_at hl 0 rfl) ?_
  refine lv_bipush (v := 22) hx hb dX8_store_3 (by decide) ?_
  refine lv_icmp_ge (tgt := 26) hx hb dX8_store_5 (by decide) (fun c_15 => ?_) (fun c_15 => ?_)
  · exact absurd c_15 (by decide)
  refine lv_aload_n hx hb dX8_store_8 rfl (lv_at hl 1 rfl) ?_
  refine va_get (D := (dC, dI)) (ci := 8) (v := .ref (AM 3)) (C := RX8) (T := TX8) (N := 17) hx hb hts inw_X8_store_X8 hown hK hP 0 rfl rfl 3 (by decide) (hts (.fieldLink RX8 16 "DuelFramesModel" "round" "[I") (List.mem_of_getElem? (i := 1) rfl)) (fun _ h9 => h9) rfl dX8_store_9 ?_
  refine lv_iload_n hx hb dX8_store_12 rfl (lv_at hl 0 rfl) ?_
  refine lv_aload_n hx hb dX8_store_13 rfl (lv_at hl 1 rfl) ?_
  refine va_get (D := (dC, dI)) (ci := 8) (v := .ref (AM 2)) (C := RX8) (T := TX8) (N := 17) hx hb hts inw_X8_store_X8 hown hK hP 0 rfl rfl 2 (by decide) (hts (.fieldLink RX8 13 "DuelFramesModel" "s" "[I") (List.mem_of_getElem? (i := 2) rfl)) (fun _ h9 => h9) rfl dX8_store_14 ?_
  refine lv_iload_n hx hb dX8_store_17 rfl (lv_at hl 0 rfl) ?_
  refine va_iald hx hb hK hP 2 0 rfl rfl (vin rfl) dX8_store_18 ?_
  refine lv_topi (fun x_16 ex_16 => ?_)
  obtain rfl : x_16 = (sA 7) := ex_16
  refine va_iast hx hb hK hP hD hS 3 0 rfl rfl (vin rfl) dX8_store_19 (fun H locs hP1 hD1 hS1 => ?_)
  clear hP hD hS
  have hP : va_P (dC, dI) vwCl [(m0, .inr (8, mdL AM g)), (AM 0, .inl (cY 0, 72, .inl tb)), (AM 2, .inl (cY 0, 22, .inl sA)), (AM 3, .inl (cY 0, 22, .inl (upd (upd (upd (upd (upd (upd (upd (upd rd 0 (sA 0)) 1 (sA 1)) 2 (sA 2)) 3 (sA 3)) 4 (sA 4)) 5 (sA 5)) 6 (sA 6)) 7 (sA 7)))), (AM 4, .inl (cY 0, 110, .inl kp)), (AM 5, .inl (cY 0, 8414, .inl td)), (AM 6, .inl (cY 0, 2, .inl wn)), (AM 13, .inl (cY 0, 4, .inl rw)), (AM 14, .inl (cY 0, 4, .inl br))] H := hP1
  have hD : va_D A [(m0, .inr (8, mdL AM g)), (AM 0, .inl (cY 0, 72, .inl tb)), (AM 2, .inl (cY 0, 22, .inl sA)), (AM 3, .inl (cY 0, 22, .inl (upd (upd (upd (upd (upd (upd (upd (upd rd 0 (sA 0)) 1 (sA 1)) 2 (sA 2)) 3 (sA 3)) 4 (sA 4)) 5 (sA 5)) 6 (sA 6)) 7 (sA 7)))), (AM 4, .inl (cY 0, 110, .inl kp)), (AM 5, .inl (cY 0, 8414, .inl td)), (AM 6, .inl (cY 0, 2, .inl wn)), (AM 13, .inl (cY 0, 4, .inl rw)), (AM 14, .inl (cY 0, 4, .inl br))] := hD1
  have hS := hS1
  clear hP1 hD1 hS1
  refine lv_iinc (v := 8) (lv' := [(1, .int 8), (0, .ref m0)]) hx hb dX8_store_20 hl (k := 0) rfl (by first | rfl | decide) (by decide) rfl (fun ls hl => ?_)
  refine lv_goto (tgt := 2) hx hb dX8_store_23 (by decide) ?_
  refine lv_iload_n hx hb dX8_store_2 rfl (lv_at hl 0 rfl) ?_
  refine lv_bipush (v := 22) hx hb dX8_store_3 (by decide) ?_
  refine lv_icmp_ge (tgt := 26) hx hb dX8_store_5 (by decide) (fun c_17 => ?_) (fun c_17 => ?_)
  · exact absurd c_17 (by decide)
  refine lv_aload_n hx hb dX8_store_8 rfl (lv_at hl 1 rfl) ?_
  refine va_get (D := (dC, dI)) (ci := 8) (v := .ref (AM 3)) (C := RX8) (T := TX8) (N := 17) hx hb hts inw_X8_store_X8 hown hK hP 0 rfl rfl 3 (by decide) (hts (.fieldLink RX8 16 "DuelFramesModel" "round" "[I") (List.mem_of_getElem? (i := 1) rfl)) (fun _ h9 => h9) rfl dX8_store_9 ?_
  refine lv_iload_n hx hb dX8_store_12 rfl (lv_at hl 0 rfl) ?_
  refine lv_aload_n hx hb dX8_store_13 rfl (lv_at hl 1 rfl) ?_
  refine va_get (D := (dC, dI)) (ci := 8) (v := .ref (AM 2)) (C := RX8) (T := TX8) (N := 17) hx hb hts inw_X8_store_X8 hown hK hP 0 rfl rfl 2 (by decide) (hts (.fieldLink RX8 13 "DuelFramesModel" "s" "[I") (List.mem_of_getElem? (i := 2) rfl)) (fun _ h9 => h9) rfl dX8_store_14 ?_
  refine lv_iload_n hx hb dX8_store_17 rfl (lv_at hl 0 rfl) ?_
  refine va_iald hx hb hK hP 2 0 rfl rfl (vin rfl) dX8_store_18 ?_
  refine lv_topi (fun x_18 ex_18 => ?_)
  obtain rfl : x_18 = (sA 8) := ex_18
  refine va_iast hx hb hK hP hD hS 3 0 rfl rfl (vin rfl) dX8_store_19 (fun H locs hP1 hD1 hS1 => ?_)
  clear hP hD hS
  have hP : va_P (dC, dI) vwCl [(m0, .inr (8, mdL AM g)), (AM 0, .inl (cY 0, 72, .inl tb)), (AM 2, .inl (cY 0, 22, .inl sA)), (AM 3, .inl (cY 0, 22, .inl (upd (upd (upd (upd (upd (upd (upd (upd (upd rd 0 (sA 0)) 1 (sA 1)) 2 (sA 2)) 3 (sA 3)) 4 (sA 4)) 5 (sA 5)) 6 (sA 6)) 7 (sA 7)) 8 (sA 8)))), (AM 4, .inl (cY 0, 110, .inl kp)), (AM 5, .inl (cY 0, 8414, .inl td)), (AM 6, .inl (cY 0, 2, .inl wn)), (AM 13, .inl (cY 0, 4, .inl rw)), (AM 14, .inl (cY 0, 4, .inl br))] H := hP1
  have hD : va_D A [(m0, .inr (8, mdL AM g)), (AM 0, .inl (cY 0, 72, .inl tb)), (AM 2, .inl (cY 0, 22, .inl sA)), (AM 3, .inl (cY 0, 22, .inl (upd (upd (upd (upd (upd (upd (upd (upd (upd rd 0 (sA 0)) 1 (sA 1)) 2 (sA 2)) 3 (sA 3)) 4 (sA 4)) 5 (sA 5)) 6 (sA 6)) 7 (sA 7)) 8 (sA 8)))), (AM 4, .inl (cY 0, 110, .inl kp)), (AM 5, .inl (cY 0, 8414, .inl td)), (AM 6, .inl (cY 0, 2, .inl wn)), (AM 13, .inl (cY 0, 4, .inl rw)), (AM 14, .inl (cY 0, 4, .inl br))] := hD1
  have hS := hS1
  clear hP1 hD1 hS1
  refine lv_iinc (v := 9) (lv' := [(1, .int 9), (0, .ref m0)]) hx hb dX8_store_20 hl (k := 0) rfl (by first | rfl | decide) (by decide) rfl (fun ls hl => ?_)
  refine lv_goto (tgt := 2) hx hb dX8_store_23 (by decide) ?_
  refine lv_iload_n hx hb dX8_store_2 rfl (lv_at hl 0 rfl) ?_
  refine lv_bipush (v := 22) hx hb dX8_store_3 (by decide) ?_
  refine lv_icmp_ge (tgt := 26) hx hb dX8_store_5 (by decide) (fun c_19 => ?_) (fun c_19 => ?_)
  · exact absurd c_19 (by decide)
  refine lv_aload_n hx hb dX8_store_8 rfl (lv_at hl 1 rfl) ?_
  refine va_get (D := (dC, dI)) (ci := 8) (v := .ref (AM 3)) (C := RX8) (T := TX8) (N := 17) hx hb hts inw_X8_store_X8 hown hK hP 0 rfl rfl 3 (by decide) (hts (.fieldLink RX8 16 "DuelFramesModel" "round" "[I") (List.mem_of_getElem? (i := 1) rfl)) (fun _ h9 => h9) rfl dX8_store_9 ?_
  refine lv_iload_n hx hb dX8_store_12 rfl (lv_at hl 0 rfl) ?_
  refine lv_aload_n hx hb dX8_store_13 rfl (lv_at hl 1 rfl) ?_
  refine va_get (D := (dC, dI)) (ci := 8) (v := .ref (AM 2)) (C := RX8) (T := TX8) (N := 17) hx hb hts inw_X8_store_X8 hown hK hP 0 rfl rfl 2 (by decide) (hts (.fieldLink RX8 13 "DuelFramesModel" "s" "[I") (List.mem_of_getElem? (i := 2) rfl)) (fun _ h9 => h9) rfl dX8_store_14 ?_
  refine lv_iload_n hx hb dX8_store_17 rfl (lv_at hl 0 rfl) ?_
  refine va_iald hx hb hK hP 2 0 rfl rfl (vin rfl) dX8_store_18 ?_
  refine lv_topi (fun x_20 ex_20 => ?_)
  obtain rfl : x_20 = (sA 9) := ex_20
  refine va_iast hx hb hK hP hD hS 3 0 rfl rfl (vin rfl) dX8_store_19 (fun H locs hP1 hD1 hS1 => ?_)
  clear hP hD hS
  have hP : va_P (dC, dI) vwCl [(m0, .inr (8, mdL AM g)), (AM 0, .inl (cY 0, 72, .inl tb)), (AM 2, .inl (cY 0, 22, .inl sA)), (AM 3, .inl (cY 0, 22, .inl (upd (upd (upd (upd (upd (upd (upd (upd (upd (upd rd 0 (sA 0)) 1 (sA 1)) 2 (sA 2)) 3 (sA 3)) 4 (sA 4)) 5 (sA 5)) 6 (sA 6)) 7 (sA 7)) 8 (sA 8)) 9 (sA 9)))), (AM 4, .inl (cY 0, 110, .inl kp)), (AM 5, .inl (cY 0, 8414, .inl td)), (AM 6, .inl (cY 0, 2, .inl wn)), (AM 13, .inl (cY 0, 4, .inl rw)), (AM 14, .inl (cY 0, 4, .inl br))] H := hP1
  have hD : va_D A [(m0, .inr (8, mdL AM g)), (AM 0, .inl (cY 0, 72, .inl tb)), (AM 2, .inl (cY 0, 22, .inl sA)), (AM 3, .inl (cY 0, 22, .inl (upd (upd (upd (upd (upd (upd (upd (upd (upd (upd rd 0 (sA 0)) 1 (sA 1)) 2 (sA 2)) 3 (sA 3)) 4 (sA 4)) 5 (sA 5)) 6 (sA 6)) 7 (sA 7)) 8 (sA 8)) 9 (sA 9)))), (AM 4, .inl (cY 0, 110, .inl kp)), (AM 5, .inl (cY 0, 8414, .inl td)), (AM 6, .inl (cY 0, 2, .inl wn)), (AM 13, .inl (cY 0, 4, .inl rw)), (AM 14, .inl (cY 0, 4, .inl br))] := hD1
  have hS := hS1
  clear hP1 hD1 hS1
  refine lv_iinc (v := 10) (lv' := [(1, .int 10), (0, .ref m0)]) hx hb dX8_store_20 hl (k := 0) rfl (by first | rfl | decide) (by decide) rfl (fun ls hl => ?_)
  refine lv_goto (tgt := 2) hx hb dX8_store_23 (by decide) ?_
  refine lv_iload_n hx hb dX8_store_2 rfl (lv_at hl 0 rfl) ?_
  refine lv_bipush (v := 22) hx hb dX8_store_3 (by decide) ?_
  refine lv_icmp_ge (tgt := 26) hx hb dX8_store_5 (by decide) (fun c_21 => ?_) (fun c_21 => ?_)
  · exact absurd c_21 (by decide)
  refine lv_aload_n hx hb dX8_store_8 rfl (lv_at hl 1 rfl) ?_
  refine va_get (D := (dC, dI)) (ci := 8) (v := .ref (AM 3)) (C := RX8) (T := TX8) (N := 17) hx hb hts inw_X8_store_X8 hown hK hP 0 rfl rfl 3 (by decide) (hts (.fieldLink RX8 16 "DuelFramesModel" "round" "[I") (List.mem_of_getElem? (i := 1) rfl)) (fun _ h9 => h9) rfl dX8_store_9 ?_
  refine lv_iload_n hx hb dX8_store_12 rfl (lv_at hl 0 rfl) ?_
  refine lv_aload_n hx hb dX8_store_13 rfl (lv_at hl 1 rfl) ?_
  refine va_get (D := (dC, dI)) (ci := 8) (v := .ref (AM 2)) (C := RX8) (T := TX8) (N := 17) hx hb hts inw_X8_store_X8 hown hK hP 0 rfl rfl 2 (by decide) (hts (.fieldLink RX8 13 "DuelFramesModel" "s" "[I") (List.mem_of_getElem? (i := 2) rfl)) (fun _ h9 => h9) rfl dX8_store_14 ?_
  refine lv_iload_n hx hb dX8_store_17 rfl (lv_at hl 0 rfl) ?_
  refine va_iald hx hb hK hP 2 0 rfl rfl (vin rfl) dX8_store_18 ?_
  refine lv_topi (fun x_22 ex_22 => ?_)
  obtain rfl : x_22 = (sA 10) := ex_22
  refine va_iast hx hb hK hP hD hS 3 0 rfl rfl (vin rfl) dX8_store_19 (fun H locs hP1 hD1 hS1 => ?_)
  clear hP hD hS
  have hP : va_P (dC, dI) vwCl [(m0, .inr (8, mdL AM g)), (AM 0, .inl (cY 0, 72, .inl tb)), (AM 2, .inl (cY 0, 22, .inl sA)), (AM 3, .inl (cY 0, 22, .inl (upd (upd (upd (upd (upd (upd (upd (upd (upd (upd (upd rd 0 (sA 0)) 1 (sA 1)) 2 (sA 2)) 3 (sA 3)) 4 (sA 4)) 5 (sA 5)) 6 (sA 6)) 7 (sA 7)) 8 (sA 8)) 9 (sA 9)) 10 (sA 10)))), (AM 4, .inl (cY 0, 110, .inl kp)), (AM 5, .inl (cY 0, 8414, .inl td)), (AM 6, .inl (cY 0, 2, .inl wn)), (AM 13, .inl (cY 0, 4, .inl rw)), (AM 14, .inl (cY 0, 4, .inl br))] H := hP1
  have hD : va_D A [(m0, .inr (8, mdL AM g)), (AM 0, .inl (cY 0, 72, .inl tb)), (AM 2, .inl (cY 0, 22, .inl sA)), (AM 3, .inl (cY 0, 22, .inl (upd (upd (upd (upd (upd (upd (upd (upd (upd (upd (upd rd 0 (sA 0)) 1 (sA 1)) 2 (sA 2)) 3 (sA 3)) 4 (sA 4)) 5 (sA 5)) 6 (sA 6)) 7 (sA 7)) 8 (sA 8)) 9 (sA 9)) 10 (sA 10)))), (AM 4, .inl (cY 0, 110, .inl kp)), (AM 5, .inl (cY 0, 8414, .inl td)), (AM 6, .inl (cY 0, 2, .inl wn)), (AM 13, .inl (cY 0, 4, .inl rw)), (AM 14, .inl (cY 0, 4, .inl br))] := hD1
  have hS := hS1
  clear hP1 hD1 hS1
  refine lv_iinc (v := 11) (lv' := [(1, .int 11), (0, .ref m0)]) hx hb dX8_store_20 hl (k := 0) rfl (by first | rfl | decide) (by decide) rfl (fun ls hl => ?_)
  refine lv_goto (tgt := 2) hx hb dX8_store_23 (by decide) ?_
  refine lv_iload_n hx hb dX8_store_2 rfl (lv_at hl 0 rfl) ?_
  refine lv_bipush (v := 22) hx hb dX8_store_3 (by decide) ?_
  refine lv_icmp_ge (tgt := 26) hx hb dX8_store_5 (by decide) (fun c_23 => ?_) (fun c_23 => ?_)
  · exact absurd c_23 (by decide)
  refine lv_aload_n hx hb dX8_store_8 rfl (lv_at hl 1 rfl) ?_
  refine va_get (D := (dC, dI)) (ci := 8) (v := .ref (AM 3)) (C := RX8) (T := TX8) (N := 17) hx hb hts inw_X8_store_X8 hown hK hP 0 rfl rfl 3 (by decide) (hts (.fieldLink RX8 16 "DuelFramesModel" "round" "[I") (List.mem_of_getElem? (i := 1) rfl)) (fun _ h9 => h9) rfl dX8_store_9 ?_
  refine lv_iload_n hx hb dX8_store_12 rfl (lv_at hl 0 rfl) ?_
  refine lv_aload_n hx hb dX8_store_13 rfl (lv_at hl 1 rfl) ?_
  refine va_get (D := (dC, dI)) (ci := 8) (v := .ref (AM 2)) (C := RX8) (T := TX8) (N := 17) hx hb hts inw_X8_store_X8 hown hK hP 0 rfl rfl 2 (by decide) (hts (.fieldLink RX8 13 "DuelFramesModel" "s" "[I") (List.mem_of_getElem? (i := 2) rfl)) (fun _ h9 => h9) rfl dX8_store_14 ?_
  refine lv_iload_n hx hb dX8_store_17 rfl (lv_at hl 0 rfl) ?_
  refine va_iald hx hb hK hP 2 0 rfl rfl (vin rfl) dX8_store_18 ?_
  refine lv_topi (fun x_24 ex_24 => ?_)
  obtain rfl : x_24 = (sA 11) := ex_24
  refine va_iast hx hb hK hP hD hS 3 0 rfl rfl (vin rfl) dX8_store_19 (fun H locs hP1 hD1 hS1 => ?_)
  clear hP hD hS
  have hP : va_P (dC, dI) vwCl [(m0, .inr (8, mdL AM g)), (AM 0, .inl (cY 0, 72, .inl tb)), (AM 2, .inl (cY 0, 22, .inl sA)), (AM 3, .inl (cY 0, 22, .inl (upd (upd (upd (upd (upd (upd (upd (upd (upd (upd (upd (upd rd 0 (sA 0)) 1 (sA 1)) 2 (sA 2)) 3 (sA 3)) 4 (sA 4)) 5 (sA 5)) 6 (sA 6)) 7 (sA 7)) 8 (sA 8)) 9 (sA 9)) 10 (sA 10)) 11 (sA 11)))), (AM 4, .inl (cY 0, 110, .inl kp)), (AM 5, .inl (cY 0, 8414, .inl td)), (AM 6, .inl (cY 0, 2, .inl wn)), (AM 13, .inl (cY 0, 4, .inl rw)), (AM 14, .inl (cY 0, 4, .inl br))] H := hP1
  have hD : va_D A [(m0, .inr (8, mdL AM g)), (AM 0, .inl (cY 0, 72, .inl tb)), (AM 2, .inl (cY 0, 22, .inl sA)), (AM 3, .inl (cY 0, 22, .inl (upd (upd (upd (upd (upd (upd (upd (upd (upd (upd (upd (upd rd 0 (sA 0)) 1 (sA 1)) 2 (sA 2)) 3 (sA 3)) 4 (sA 4)) 5 (sA 5)) 6 (sA 6)) 7 (sA 7)) 8 (sA 8)) 9 (sA 9)) 10 (sA 10)) 11 (sA 11)))), (AM 4, .inl (cY 0, 110, .inl kp)), (AM 5, .inl (cY 0, 8414, .inl td)), (AM 6, .inl (cY 0, 2, .inl wn)), (AM 13, .inl (cY 0, 4, .inl rw)), (AM 14, .inl (cY 0, 4, .inl br))] := hD1
  have hS := hS1
  clear hP1 hD1 hS1
  refine lv_iinc (v := 12) (lv' := [(1, .int 12), (0, .ref m0)]) hx hb dX8_store_20 hl (k := 0) rfl (by first | rfl | decide) (by decide) rfl (fun ls hl => ?_)
  refine lv_goto (tgt := 2) hx hb dX8_store_23 (by decide) ?_
  refine lv_iload_n hx hb dX8_store_2 rfl (lv_at hl 0 rfl) ?_
  refine lv_bipush (v := 22) hx hb dX8_store_3 (by decide) ?_
  refine lv_icmp_ge (tgt := 26) hx hb dX8_store_5 (by decide) (fun c_25 => ?_) (fun c_25 => ?_)
  · exact absurd c_25 (by decide)
  refine lv_aload_n hx hb dX8_store_8 rfl (lv_at hl 1 rfl) ?_
  refine va_get (D := (dC, dI)) (ci := 8) (v := .ref (AM 3)) (C := RX8) (T := TX8) (N := 17) hx hb hts inw_X8_store_X8 hown hK hP 0 rfl rfl 3 (by decide) (hts (.fieldLink RX8 16 "DuelFramesModel" "round" "[I") (List.mem_of_getElem? (i := 1) rfl)) (fun _ h9 => h9) rfl dX8_store_9 ?_
  refine lv_iload_n hx hb dX8_store_12 rfl (lv_at hl 0 rfl) ?_
  refine lv_aload_n hx hb dX8_store_13 rfl (lv_at hl 1 rfl) ?_
  refine va_get (D := (dC, dI)) (ci := 8) (v := .ref (AM 2)) (C := RX8) (T := TX8) (N := 17) hx hb hts inw_X8_store_X8 hown hK hP 0 rfl rfl 2 (by decide) (hts (.fieldLink RX8 13 "DuelFramesModel" "s" "[I") (List.mem_of_getElem? (i := 2) rfl)) (fun _ h9 => h9) rfl dX8_store_14 ?_
  refine lv_iload_n hx hb dX8_store_17 rfl (lv_at hl 0 rfl) ?_
  refine va_iald hx hb hK hP 2 0 rfl rfl (vin rfl) dX8_store_18 ?_
  refine lv_topi (fun x_26 ex_26 => ?_)
  obtain rfl : x_26 = (sA 12) := ex_26
  refine va_iast hx hb hK hP hD hS 3 0 rfl rfl (vin rfl) dX8_store_19 (fun H locs hP1 hD1 hS1 => ?_)
  clear hP hD hS
  have hP : va_P (dC, dI) vwCl [(m0, .inr (8, mdL AM g)), (AM 0, .inl (cY 0, 72, .inl tb)), (AM 2, .inl (cY 0, 22, .inl sA)), (AM 3, .inl (cY 0, 22, .inl (upd (upd (upd (upd (upd (upd (upd (upd (upd (upd (upd (upd (upd rd 0 (sA 0)) 1 (sA 1)) 2 (sA 2)) 3 (sA 3)) 4 (sA 4)) 5 (sA 5)) 6 (sA 6)) 7 (sA 7)) 8 (sA 8)) 9 (sA 9)) 10 (sA 10)) 11 (sA 11)) 12 (sA 12)))), (AM 4, .inl (cY 0, 110, .inl kp)), (AM 5, .inl (cY 0, 8414, .inl td)), (AM 6, .inl (cY 0, 2, .inl wn)), (AM 13, .inl (cY 0, 4, .inl rw)), (AM 14, .inl (cY 0, 4, .inl br))] H := hP1
  have hD : va_D A [(m0, .inr (8, mdL AM g)), (AM 0, .inl (cY 0, 72, .inl tb)), (AM 2, .inl (cY 0, 22, .inl sA)), (AM 3, .inl (cY 0, 22, .inl (upd (upd (upd (upd (upd (upd (upd (upd (upd (upd (upd (upd (upd rd 0 (sA 0)) 1 (sA 1)) 2 (sA 2)) 3 (sA 3)) 4 (sA 4)) 5 (sA 5)) 6 (sA 6)) 7 (sA 7)) 8 (sA 8)) 9 (sA 9)) 10 (sA 10)) 11 (sA 11)) 12 (sA 12)))), (AM 4, .inl (cY 0, 110, .inl kp)), (AM 5, .inl (cY 0, 8414, .inl td)), (AM 6, .inl (cY 0, 2, .inl wn)), (AM 13, .inl (cY 0, 4, .inl rw)), (AM 14, .inl (cY 0, 4, .inl br))] := hD1
  have hS := hS1
  clear hP1 hD1 hS1
  refine lv_iinc (v := 13) (lv' := [(1, .int 13), (0, .ref m0)]) hx hb dX8_store_20 hl (k := 0) rfl (by first | rfl | decide) (by decide) rfl (fun ls hl => ?_)
  refine lv_goto (tgt := 2) hx hb dX8_store_23 (by decide) ?_
  refine lv_iload_n hx hb dX8_store_2 rfl (lv_at hl 0 rfl) ?_
  refine lv_bipush (v := 22) hx hb dX8_store_3 (by decide) ?_
  refine lv_icmp_ge (tgt := 26) hx hb dX8_store_5 (by decide) (fun c_27 => ?_) (fun c_27 => ?_)
  · exact absurd c_27 (by decide)
  refine lv_aload_n hx hb dX8_store_8 rfl (lv_at hl 1 rfl) ?_
  refine va_get (D := (dC, dI)) (ci := 8) (v := .ref (AM 3)) (C := RX8) (T := TX8) (N := 17) hx hb hts inw_X8_store_X8 hown hK hP 0 rfl rfl 3 (by decide) (hts (.fieldLink RX8 16 "DuelFramesModel" "round" "[I") (List.mem_of_getElem? (i := 1) rfl)) (fun _ h9 => h9) rfl dX8_store_9 ?_
  refine lv_iload_n hx hb dX8_store_12 rfl (lv_at hl 0 rfl) ?_
  refine lv_aload_n hx hb dX8_store_13 rfl (lv_at hl 1 rfl) ?_
  refine va_get (D := (dC, dI)) (ci := 8) (v := .ref (AM 2)) (C := RX8) (T := TX8) (N := 17) hx hb hts inw_X8_store_X8 hown hK hP 0 rfl rfl 2 (by decide) (hts (.fieldLink RX8 13 "DuelFramesModel" "s" "[I") (List.mem_of_getElem? (i := 2) rfl)) (fun _ h9 => h9) rfl dX8_store_14 ?_
  refine lv_iload_n hx hb dX8_store_17 rfl (lv_at hl 0 rfl) ?_
  refine va_iald hx hb hK hP 2 0 rfl rfl (vin rfl) dX8_store_18 ?_
  refine lv_topi (fun x_28 ex_28 => ?_)
  obtain rfl : x_28 = (sA 13) := ex_28
  refine va_iast hx hb hK hP hD hS 3 0 rfl rfl (vin rfl) dX8_store_19 (fun H locs hP1 hD1 hS1 => ?_)
  clear hP hD hS
  have hP : va_P (dC, dI) vwCl [(m0, .inr (8, mdL AM g)), (AM 0, .inl (cY 0, 72, .inl tb)), (AM 2, .inl (cY 0, 22, .inl sA)), (AM 3, .inl (cY 0, 22, .inl (upd (upd (upd (upd (upd (upd (upd (upd (upd (upd (upd (upd (upd (upd rd 0 (sA 0)) 1 (sA 1)) 2 (sA 2)) 3 (sA 3)) 4 (sA 4)) 5 (sA 5)) 6 (sA 6)) 7 (sA 7)) 8 (sA 8)) 9 (sA 9)) 10 (sA 10)) 11 (sA 11)) 12 (sA 12)) 13 (sA 13)))), (AM 4, .inl (cY 0, 110, .inl kp)), (AM 5, .inl (cY 0, 8414, .inl td)), (AM 6, .inl (cY 0, 2, .inl wn)), (AM 13, .inl (cY 0, 4, .inl rw)), (AM 14, .inl (cY 0, 4, .inl br))] H := hP1
  have hD : va_D A [(m0, .inr (8, mdL AM g)), (AM 0, .inl (cY 0, 72, .inl tb)), (AM 2, .inl (cY 0, 22, .inl sA)), (AM 3, .inl (cY 0, 22, .inl (upd (upd (upd (upd (upd (upd (upd (upd (upd (upd (upd (upd (upd (upd rd 0 (sA 0)) 1 (sA 1)) 2 (sA 2)) 3 (sA 3)) 4 (sA 4)) 5 (sA 5)) 6 (sA 6)) 7 (sA 7)) 8 (sA 8)) 9 (sA 9)) 10 (sA 10)) 11 (sA 11)) 12 (sA 12)) 13 (sA 13)))), (AM 4, .inl (cY 0, 110, .inl kp)), (AM 5, .inl (cY 0, 8414, .inl td)), (AM 6, .inl (cY 0, 2, .inl wn)), (AM 13, .inl (cY 0, 4, .inl rw)), (AM 14, .inl (cY 0, 4, .inl br))] := hD1
  have hS := hS1
  clear hP1 hD1 hS1
  refine lv_iinc (v := 14) (lv' := [(1, .int 14), (0, .ref m0)]) hx hb dX8_store_20 hl (k := 0) rfl (by first | rfl | decide) (by decide) rfl (fun ls hl => ?_)
  refine lv_goto (tgt := 2) hx hb dX8_store_23 (by decide) ?_
  refine lv_iload_n hx hb dX8_store_2 rfl (lv_at hl 0 rfl) ?_
  refine lv_bipush (v := 22) hx hb dX8_store_3 (by decide) ?_
  refine lv_icmp_ge (tgt := 26) hx hb dX8_store_5 (by decide) (fun c_29 => ?_) (fun c_29 => ?_)
  · exact absurd c_29 (by decide)
  refine lv_aload_n hx hb dX8_store_8 rfl (lv_at hl 1 rfl) ?_
  refine va_get (D := (dC, dI)) (ci := 8) (v := .ref (AM 3)) (C := RX8) (T := TX8) (N := 17) hx hb hts inw_X8_store_X8 hown hK hP 0 rfl rfl 3 (by decide) (hts (.fieldLink RX8 16 "DuelFramesModel" "round" "[I") (List.mem_of_getElem? (i := 1) rfl)) (fun _ h9 => h9) rfl dX8_store_9 ?_
  refine lv_iload_n hx hb dX8_store_12 rfl (lv_at hl 0 rfl) ?_
  refine lv_aload_n hx hb dX8_store_13 rfl (lv_at hl 1 rfl) ?_
  refine va_get (D := (dC, dI)) (ci := 8) (v := .ref (AM 2)) (C := RX8) (T := TX8) (N := 17) hx hb hts inw_X8_store_X8 hown hK hP 0 rfl rfl 2 (by decide) (hts (.fieldLink RX8 13 "DuelFramesModel" "s" "[I") (List.mem_of_getElem? (i := 2) rfl)) (fun _ h9 => h9) rfl dX8_store_14 ?_
  refine lv_iload_n hx hb dX8_store_17 rfl (lv_at hl 0 rfl) ?_
  refine va_iald hx hb hK hP 2 0 rfl rfl (vin rfl) dX8_store_18 ?_
  refine lv_topi (fun x_30 ex_30 => ?_)
  obtain rfl : x_30 = (sA 14) := ex_30
  refine va_iast hx hb hK hP hD hS 3 0 rfl rfl (vin rfl) dX8_store_19 (fun H locs hP1 hD1 hS1 => ?_)
  clear hP hD hS
  have hP : va_P (dC, dI) vwCl [(m0, .inr (8, mdL AM g)), (AM 0, .inl (cY 0, 72, .inl tb)), (AM 2, .inl (cY 0, 22, .inl sA)), (AM 3, .inl (cY 0, 22, .inl (upd (upd (upd (upd (upd (upd (upd (upd (upd (upd (upd (upd (upd (upd (upd rd 0 (sA 0)) 1 (sA 1)) 2 (sA 2)) 3 (sA 3)) 4 (sA 4)) 5 (sA 5)) 6 (sA 6)) 7 (sA 7)) 8 (sA 8)) 9 (sA 9)) 10 (sA 10)) 11 (sA 11)) 12 (sA 12)) 13 (sA 13)) 14 (sA 14)))), (AM 4, .inl (cY 0, 110, .inl kp)), (AM 5, .inl (cY 0, 8414, .inl td)), (AM 6, .inl (cY 0, 2, .inl wn)), (AM 13, .inl (cY 0, 4, .inl rw)), (AM 14, .inl (cY 0, 4, .inl br))] H := hP1
  have hD : va_D A [(m0, .inr (8, mdL AM g)), (AM 0, .inl (cY 0, 72, .inl tb)), (AM 2, .inl (cY 0, 22, .inl sA)), (AM 3, .inl (cY 0, 22, .inl (upd (upd (upd (upd (upd (upd (upd (upd (upd (upd (upd (upd (upd (upd (upd rd 0 (sA 0)) 1 (sA 1)) 2 (sA 2)) 3 (sA 3)) 4 (sA 4)) 5 (sA 5)) 6 (sA 6)) 7 (sA 7)) 8 (sA 8)) 9 (sA 9)) 10 (sA 10)) 11 (sA 11)) 12 (sA 12)) 13 (sA 13)) 14 (sA 14)))), (AM 4, .inl (cY 0, 110, .inl kp)), (AM 5, .inl (cY 0, 8414, .inl td)), (AM 6, .inl (cY 0, 2, .inl wn)), (AM 13, .inl (cY 0, 4, .inl rw)), (AM 14, .inl (cY 0, 4, .inl br))] := hD1
  have hS := hS1
  clear hP1 hD1 hS1
  refine lv_iinc (v := 15) (lv' := [(1, .int 15), (0, .ref m0)]) hx hb dX8_store_20 hl (k := 0) rfl (by first | rfl | decide) (by decide) rfl (fun ls hl => ?_)
  refine lv_goto (tgt := 2) hx hb dX8_store_23 (by decide) ?_
  refine lv_iload_n hx hb dX8_store_2 rfl (lv_at hl 0 rfl) ?_
  refine lv_bipush (v := 22) hx hb dX8_store_3 (by decide) ?_
  refine lv_icmp_ge (tgt := 26) hx hb dX8_store_5 (by decide) (fun c_31 => ?_) (fun c_31 => ?_)
  · exact absurd c_31 (by decide)
  refine lv_aload_n hx hb dX8_store_8 rfl (lv_at hl 1 rfl) ?_
  refine va_get (D := (dC, dI)) (ci := 8) (v := .ref (AM 3)) (C := RX8) (T := TX8) (N := 17) hx hb hts inw_X8_store_X8 hown hK hP 0 rfl rfl 3 (by decide) (hts (.fieldLink RX8 16 "DuelFramesModel" "round" "[I") (List.mem_of_getElem? (i := 1) rfl)) (fun _ h9 => h9) rfl dX8_store_9 ?_
  refine lv_iload_n hx hb dX8_store_12 rfl (lv_at hl 0 rfl) ?_
  refine lv_aload_n hx hb dX8_store_13 rfl (lv_at hl 1 rfl) ?_
  refine va_get (D := (dC, dI)) (ci := 8) (v := .ref (AM 2)) (C := RX8) (T := TX8) (N := 17) hx hb hts inw_X8_store_X8 hown hK hP 0 rfl rfl 2 (by decide) (hts (.fieldLink RX8 13 "DuelFramesModel" "s" "[I") (List.mem_of_getElem? (i := 2) rfl)) (fun _ h9 => h9) rfl dX8_store_14 ?_
  refine lv_iload_n hx hb dX8_store_17 rfl (lv_at hl 0 rfl) ?_
  refine va_iald hx hb hK hP 2 0 rfl rfl (vin rfl) dX8_store_18 ?_
  refine lv_topi (fun x_32 ex_32 => ?_)
  obtain rfl : x_32 = (sA 15) := ex_32
  refine va_iast hx hb hK hP hD hS 3 0 rfl rfl (vin rfl) dX8_store_19 (fun H locs hP1 hD1 hS1 => ?_)
  clear hP hD hS
  have hP : va_P (dC, dI) vwCl [(m0, .inr (8, mdL AM g)), (AM 0, .inl (cY 0, 72, .inl tb)), (AM 2, .inl (cY 0, 22, .inl sA)), (AM 3, .inl (cY 0, 22, .inl (upd (upd (upd (upd (upd (upd (upd (upd (upd (upd (upd (upd (upd (upd (upd (upd rd 0 (sA 0)) 1 (sA 1)) 2 (sA 2)) 3 (sA 3)) 4 (sA 4)) 5 (sA 5)) 6 (sA 6)) 7 (sA 7)) 8 (sA 8)) 9 (sA 9)) 10 (sA 10)) 11 (sA 11)) 12 (sA 12)) 13 (sA 13)) 14 (sA 14)) 15 (sA 15)))), (AM 4, .inl (cY 0, 110, .inl kp)), (AM 5, .inl (cY 0, 8414, .inl td)), (AM 6, .inl (cY 0, 2, .inl wn)), (AM 13, .inl (cY 0, 4, .inl rw)), (AM 14, .inl (cY 0, 4, .inl br))] H := hP1
  have hD : va_D A [(m0, .inr (8, mdL AM g)), (AM 0, .inl (cY 0, 72, .inl tb)), (AM 2, .inl (cY 0, 22, .inl sA)), (AM 3, .inl (cY 0, 22, .inl (upd (upd (upd (upd (upd (upd (upd (upd (upd (upd (upd (upd (upd (upd (upd (upd rd 0 (sA 0)) 1 (sA 1)) 2 (sA 2)) 3 (sA 3)) 4 (sA 4)) 5 (sA 5)) 6 (sA 6)) 7 (sA 7)) 8 (sA 8)) 9 (sA 9)) 10 (sA 10)) 11 (sA 11)) 12 (sA 12)) 13 (sA 13)) 14 (sA 14)) 15 (sA 15)))), (AM 4, .inl (cY 0, 110, .inl kp)), (AM 5, .inl (cY 0, 8414, .inl td)), (AM 6, .inl (cY 0, 2, .inl wn)), (AM 13, .inl (cY 0, 4, .inl rw)), (AM 14, .inl (cY 0, 4, .inl br))] := hD1
  have hS := hS1
  clear hP1 hD1 hS1
  refine lv_iinc (v := 16) (lv' := [(1, .int 16), (0, .ref m0)]) hx hb dX8_store_20 hl (k := 0) rfl (by first | rfl | decide) (by decide) rfl (fun ls hl => ?_)
  refine lv_goto (tgt := 2) hx hb dX8_store_23 (by decide) ?_
  refine lv_iload_n hx hb dX8_store_2 rfl (lv_at hl 0 rfl) ?_
  refine lv_bipush (v := 22) hx hb dX8_store_3 (by decide) ?_
  refine lv_icmp_ge (tgt := 26) hx hb dX8_store_5 (by decide) (fun c_33 => ?_) (fun c_33 => ?_)
  · exact absurd c_33 (by decide)
  refine lv_aload_n hx hb dX8_store_8 rfl (lv_at hl 1 rfl) ?_
  refine va_get (D := (dC, dI)) (ci := 8) (v := .ref (AM 3)) (C := RX8) (T := TX8) (N := 17) hx hb hts inw_X8_store_X8 hown hK hP 0 rfl rfl 3 (by decide) (hts (.fieldLink RX8 16 "DuelFramesModel" "round" "[I") (List.mem_of_getElem? (i := 1) rfl)) (fun _ h9 => h9) rfl dX8_store_9 ?_
  refine lv_iload_n hx hb dX8_store_12 rfl (lv_at hl 0 rfl) ?_
  refine lv_aload_n hx hb dX8_store_13 rfl (lv_at hl 1 rfl) ?_
  refine va_get (D := (dC, dI)) (ci := 8) (v := .ref (AM 2)) (C := RX8) (T := TX8) (N := 17) hx hb hts inw_X8_store_X8 hown hK hP 0 rfl rfl 2 (by decide) (hts (.fieldLink RX8 13 "DuelFramesModel" "s" "[I") (List.mem_of_getElem? (i := 2) rfl)) (fun _ h9 => h9) rfl dX8_store_14 ?_
  refine lv_iload_n hx hb dX8_store_17 rfl (lv_at hl 0 rfl) ?_
  refine va_iald hx hb hK hP 2 0 rfl rfl (vin rfl) dX8_store_18 ?_
  refine lv_topi (fun x_34 ex_34 => ?_)
  obtain rfl : x_34 = (sA 16) := ex_34
  refine va_iast hx hb hK hP hD hS 3 0 rfl rfl (vin rfl) dX8_store_19 (fun H locs hP1 hD1 hS1 => ?_)
  clear hP hD hS
  have hP : va_P (dC, dI) vwCl [(m0, .inr (8, mdL AM g)), (AM 0, .inl (cY 0, 72, .inl tb)), (AM 2, .inl (cY 0, 22, .inl sA)), (AM 3, .inl (cY 0, 22, .inl (upd (upd (upd (upd (upd (upd (upd (upd (upd (upd (upd (upd (upd (upd (upd (upd (upd rd 0 (sA 0)) 1 (sA 1)) 2 (sA 2)) 3 (sA 3)) 4 (sA 4)) 5 (sA 5)) 6 (sA 6)) 7 (sA 7)) 8 (sA 8)) 9 (sA 9)) 10 (sA 10)) 11 (sA 11)) 12 (sA 12)) 13 (sA 13)) 14 (sA 14)) 15 (sA 15)) 16 (sA 16)))), (AM 4, .inl (cY 0, 110, .inl kp)), (AM 5, .inl (cY 0, 8414, .inl td)), (AM 6, .inl (cY 0, 2, .inl wn)), (AM 13, .inl (cY 0, 4, .inl rw)), (AM 14, .inl (cY 0, 4, .inl br))] H := hP1
  have hD : va_D A [(m0, .inr (8, mdL AM g)), (AM 0, .inl (cY 0, 72, .inl tb)), (AM 2, .inl (cY 0, 22, .inl sA)), (AM 3, .inl (cY 0, 22, .inl (upd (upd (upd (upd (upd (upd (upd (upd (upd (upd (upd (upd (upd (upd (upd (upd (upd rd 0 (sA 0)) 1 (sA 1)) 2 (sA 2)) 3 (sA 3)) 4 (sA 4)) 5 (sA 5)) 6 (sA 6)) 7 (sA 7)) 8 (sA 8)) 9 (sA 9)) 10 (sA 10)) 11 (sA 11)) 12 (sA 12)) 13 (sA 13)) 14 (sA 14)) 15 (sA 15)) 16 (sA 16)))), (AM 4, .inl (cY 0, 110, .inl kp)), (AM 5, .inl (cY 0, 8414, .inl td)), (AM 6, .inl (cY 0, 2, .inl wn)), (AM 13, .inl (cY 0, 4, .inl rw)), (AM 14, .inl (cY 0, 4, .inl br))] := hD1
  have hS := hS1
  clear hP1 hD1 hS1
  refine lv_iinc (v := 17) (lv' := [(1, .int 17), (0, .ref m0)]) hx hb dX8_store_20 hl (k := 0) rfl (by first | rfl | decide) (by decide) rfl (fun ls hl => ?_)
  refine lv_goto (tgt := 2) hx hb dX8_store_23 (by decide) ?_
  refine lv_iload_n hx hb dX8_store_2 rfl (lv_at hl 0 rfl) ?_
  refine lv_bipush (v := 22) hx hb dX8_store_3 (by decide) ?_
  refine lv_icmp_ge (tgt := 26) hx hb dX8_store_5 (by decide) (fun c_35 => ?_) (fun c_35 => ?_)
  · exact absurd c_35 (by decide)
  refine lv_aload_n hx hb dX8_store_8 rfl (lv_at hl 1 rfl) ?_
  refine va_get (D := (dC, dI)) (ci := 8) (v := .ref (AM 3)) (C := RX8) (T := TX8) (N := 17) hx hb hts inw_X8_store_X8 hown hK hP 0 rfl rfl 3 (by decide) (hts (.fieldLink RX8 16 "DuelFramesModel" "round" "[I") (List.mem_of_getElem? (i := 1) rfl)) (fun _ h9 => h9) rfl dX8_store_9 ?_
  refine lv_iload_n hx hb dX8_store_12 rfl (lv_at hl 0 rfl) ?_
  refine lv_aload_n hx hb dX8_store_13 rfl (lv_at hl 1 rfl) ?_
  refine va_get (D := (dC, dI)) (ci := 8) (v := .ref (AM 2)) (C := RX8) (T := TX8) (N := 17) hx hb hts inw_X8_store_X8 hown hK hP 0 rfl rfl 2 (by decide) (hts (.fieldLink RX8 13 "DuelFramesModel" "s" "[I") (List.mem_of_getElem? (i := 2) rfl)) (fun _ h9 => h9) rfl dX8_store_14 ?_
  refine lv_iload_n hx hb dX8_store_17 rfl (lv_at hl 0 rfl) ?_
  refine va_iald hx hb hK hP 2 0 rfl rfl (vin rfl) dX8_store_18 ?_
  refine lv_topi (fun x_36 ex_36 => ?_)
  obtain rfl : x_36 = (sA 17) := ex_36
  refine va_iast hx hb hK hP hD hS 3 0 rfl rfl (vin rfl) dX8_store_19 (fun H locs hP1 hD1 hS1 => ?_)
  clear hP hD hS
  have hP : va_P (dC, dI) vwCl [(m0, .inr (8, mdL AM g)), (AM 0, .inl (cY 0, 72, .inl tb)), (AM 2, .inl (cY 0, 22, .inl sA)), (AM 3, .inl (cY 0, 22, .inl (upd (upd (upd (upd (upd (upd (upd (upd (upd (upd (upd (upd (upd (upd (upd (upd (upd (upd rd 0 (sA 0)) 1 (sA 1)) 2 (sA 2)) 3 (sA 3)) 4 (sA 4)) 5 (sA 5)) 6 (sA 6)) 7 (sA 7)) 8 (sA 8)) 9 (sA 9)) 10 (sA 10)) 11 (sA 11)) 12 (sA 12)) 13 (sA 13)) 14 (sA 14)) 15 (sA 15)) 16 (sA 16)) 17 (sA 17)))), (AM 4, .inl (cY 0, 110, .inl kp)), (AM 5, .inl (cY 0, 8414, .inl td)), (AM 6, .inl (cY 0, 2, .inl wn)), (AM 13, .inl (cY 0, 4, .inl rw)), (AM 14, .inl (cY 0, 4, .inl br))] H := hP1
  have hD : va_D A [(m0, .inr (8, mdL AM g)), (AM 0, .inl (cY 0, 72, .inl tb)), (AM 2, .inl (cY 0, 22, .inl sA)), (AM 3, .inl (cY 0, 22, .inl (upd (upd (upd (upd (upd (upd (upd (upd (upd (upd (upd (upd (upd (upd (upd (upd (upd (upd rd 0 (sA 0)) 1 (sA 1)) 2 (sA 2)) 3 (sA 3)) 4 (sA 4)) 5 (sA 5)) 6 (sA 6)) 7 (sA 7)) 8 (sA 8)) 9 (sA 9)) 10 (sA 10)) 11 (sA 11)) 12 (sA 12)) 13 (sA 13)) 14 (sA 14)) 15 (sA 15)) 16 (sA 16)) 17 (sA 17)))), (AM 4, .inl (cY 0, 110, .inl kp)), (AM 5, .inl (cY 0, 8414, .inl td)), (AM 6, .inl (cY 0, 2, .inl wn)), (AM 13, .inl (cY 0, 4, .inl rw)), (AM 14, .inl (cY 0, 4, .inl br))] := hD1
  have hS := hS1
  clear hP1 hD1 hS1
  refine lv_iinc (v := 18) (lv' := [(1, .int 18), (0, .ref m0)]) hx hb dX8_store_20 hl (k := 0) rfl (by first | rfl | decide) (by decide) rfl (fun ls hl => ?_)
  refine lv_goto (tgt := 2) hx hb dX8_store_23 (by decide) ?_
  refine lv_iload_n hx hb dX8_store_2 rfl (lv_at hl 0 rfl) ?_
  refine lv_bipush (v := 22) hx hb dX8_store_3 (by decide) ?_
  refine lv_icmp_ge (tgt := 26) hx hb dX8_store_5 (by decide) (fun c_37 => ?_) (fun c_37 => ?_)
  · exact absurd c_37 (by decide)
  refine lv_aload_n hx hb dX8_store_8 rfl (lv_at hl 1 rfl) ?_
  refine va_get (D := (dC, dI)) (ci := 8) (v := .ref (AM 3)) (C := RX8) (T := TX8) (N := 17) hx hb hts inw_X8_store_X8 hown hK hP 0 rfl rfl 3 (by decide) (hts (.fieldLink RX8 16 "DuelFramesModel" "round" "[I") (List.mem_of_getElem? (i := 1) rfl)) (fun _ h9 => h9) rfl dX8_store_9 ?_
  refine lv_iload_n hx hb dX8_store_12 rfl (lv_at hl 0 rfl) ?_
  refine lv_aload_n hx hb dX8_store_13 rfl (lv_at hl 1 rfl) ?_
  refine va_get (D := (dC, dI)) (ci := 8) (v := .ref (AM 2)) (C := RX8) (T := TX8) (N := 17) hx hb hts inw_X8_store_X8 hown hK hP 0 rfl rfl 2 (by decide) (hts (.fieldLink RX8 13 "DuelFramesModel" "s" "[I") (List.mem_of_getElem? (i := 2) rfl)) (fun _ h9 => h9) rfl dX8_store_14 ?_
  refine lv_iload_n hx hb dX8_store_17 rfl (lv_at hl 0 rfl) ?_
  refine va_iald hx hb hK hP 2 0 rfl rfl (vin rfl) dX8_store_18 ?_
  refine lv_topi (fun x_38 ex_38 => ?_)
  obtain rfl : x_38 = (sA 18) := ex_38
  refine va_iast hx hb hK hP hD hS 3 0 rfl rfl (vin rfl) dX8_store_19 (fun H locs hP1 hD1 hS1 => ?_)
  clear hP hD hS
  have hP : va_P (dC, dI) vwCl [(m0, .inr (8, mdL AM g)), (AM 0, .inl (cY 0, 72, .inl tb)), (AM 2, .inl (cY 0, 22, .inl sA)), (AM 3, .inl (cY 0, 22, .inl (upd (upd (upd (upd (upd (upd (upd (upd (upd (upd (upd (upd (upd (upd (upd (upd (upd (upd (upd rd 0 (sA 0)) 1 (sA 1)) 2 (sA 2)) 3 (sA 3)) 4 (sA 4)) 5 (sA 5)) 6 (sA 6)) 7 (sA 7)) 8 (sA 8)) 9 (sA 9)) 10 (sA 10)) 11 (sA 11)) 12 (sA 12)) 13 (sA 13)) 14 (sA 14)) 15 (sA 15)) 16 (sA 16)) 17 (sA 17)) 18 (sA 18)))), (AM 4, .inl (cY 0, 110, .inl kp)), (AM 5, .inl (cY 0, 8414, .inl td)), (AM 6, .inl (cY 0, 2, .inl wn)), (AM 13, .inl (cY 0, 4, .inl rw)), (AM 14, .inl (cY 0, 4, .inl br))] H := hP1
  have hD : va_D A [(m0, .inr (8, mdL AM g)), (AM 0, .inl (cY 0, 72, .inl tb)), (AM 2, .inl (cY 0, 22, .inl sA)), (AM 3, .inl (cY 0, 22, .inl (upd (upd (upd (upd (upd (upd (upd (upd (upd (upd (upd (upd (upd (upd (upd (upd (upd (upd (upd rd 0 (sA 0)) 1 (sA 1)) 2 (sA 2)) 3 (sA 3)) 4 (sA 4)) 5 (sA 5)) 6 (sA 6)) 7 (sA 7)) 8 (sA 8)) 9 (sA 9)) 10 (sA 10)) 11 (sA 11)) 12 (sA 12)) 13 (sA 13)) 14 (sA 14)) 15 (sA 15)) 16 (sA 16)) 17 (sA 17)) 18 (sA 18)))), (AM 4, .inl (cY 0, 110, .inl kp)), (AM 5, .inl (cY 0, 8414, .inl td)), (AM 6, .inl (cY 0, 2, .inl wn)), (AM 13, .inl (cY 0, 4, .inl rw)), (AM 14, .inl (cY 0, 4, .inl br))] := hD1
  have hS := hS1
  clear hP1 hD1 hS1
  refine lv_iinc (v := 19) (lv' := [(1, .int 19), (0, .ref m0)]) hx hb dX8_store_20 hl (k := 0) rfl (by first | rfl | decide) (by decide) rfl (fun ls hl => ?_)
  refine lv_goto (tgt := 2) hx hb dX8_store_23 (by decide) ?_
  refine lv_iload_n hx hb dX8_store_2 rfl (lv_at hl 0 rfl) ?_
  refine lv_bipush (v := 22) hx hb dX8_store_3 (by decide) ?_
  refine lv_icmp_ge (tgt := 26) hx hb dX8_store_5 (by decide) (fun c_39 => ?_) (fun c_39 => ?_)
  · exact absurd c_39 (by decide)
  refine lv_aload_n hx hb dX8_store_8 rfl (lv_at hl 1 rfl) ?_
  refine va_get (D := (dC, dI)) (ci := 8) (v := .ref (AM 3)) (C := RX8) (T := TX8) (N := 17) hx hb hts inw_X8_store_X8 hown hK hP 0 rfl rfl 3 (by decide) (hts (.fieldLink RX8 16 "DuelFramesModel" "round" "[I") (List.mem_of_getElem? (i := 1) rfl)) (fun _ h9 => h9) rfl dX8_store_9 ?_
  refine lv_iload_n hx hb dX8_store_12 rfl (lv_at hl 0 rfl) ?_
  refine lv_aload_n hx hb dX8_store_13 rfl (lv_at hl 1 rfl) ?_
  refine va_get (D := (dC, dI)) (ci := 8) (v := .ref (AM 2)) (C := RX8) (T := TX8) (N := 17) hx hb hts inw_X8_store_X8 hown hK hP 0 rfl rfl 2 (by decide) (hts (.fieldLink RX8 13 "DuelFramesModel" "s" "[I") (List.mem_of_getElem? (i := 2) rfl)) (fun _ h9 => h9) rfl dX8_store_14 ?_
  refine lv_iload_n hx hb dX8_store_17 rfl (lv_at hl 0 rfl) ?_
  refine va_iald hx hb hK hP 2 0 rfl rfl (vin rfl) dX8_store_18 ?_
  refine lv_topi (fun x_40 ex_40 => ?_)
  obtain rfl : x_40 = (sA 19) := ex_40
  refine va_iast hx hb hK hP hD hS 3 0 rfl rfl (vin rfl) dX8_store_19 (fun H locs hP1 hD1 hS1 => ?_)
  clear hP hD hS
  have hP : va_P (dC, dI) vwCl [(m0, .inr (8, mdL AM g)), (AM 0, .inl (cY 0, 72, .inl tb)), (AM 2, .inl (cY 0, 22, .inl sA)), (AM 3, .inl (cY 0, 22, .inl (upd (upd (upd (upd (upd (upd (upd (upd (upd (upd (upd (upd (upd (upd (upd (upd (upd (upd (upd (upd rd 0 (sA 0)) 1 (sA 1)) 2 (sA 2)) 3 (sA 3)) 4 (sA 4)) 5 (sA 5)) 6 (sA 6)) 7 (sA 7)) 8 (sA 8)) 9 (sA 9)) 10 (sA 10)) 11 (sA 11)) 12 (sA 12)) 13 (sA 13)) 14 (sA 14)) 15 (sA 15)) 16 (sA 16)) 17 (sA 17)) 18 (sA 18)) 19 (sA 19)))), (AM 4, .inl (cY 0, 110, .inl kp)), (AM 5, .inl (cY 0, 8414, .inl td)), (AM 6, .inl (cY 0, 2, .inl wn)), (AM 13, .inl (cY 0, 4, .inl rw)), (AM 14, .inl (cY 0, 4, .inl br))] H := hP1
  have hD : va_D A [(m0, .inr (8, mdL AM g)), (AM 0, .inl (cY 0, 72, .inl tb)), (AM 2, .inl (cY 0, 22, .inl sA)), (AM 3, .inl (cY 0, 22, .inl (upd (upd (upd (upd (upd (upd (upd (upd (upd (upd (upd (upd (upd (upd (upd (upd (upd (upd (upd (upd rd 0 (sA 0)) 1 (sA 1)) 2 (sA 2)) 3 (sA 3)) 4 (sA 4)) 5 (sA 5)) 6 (sA 6)) 7 (sA 7)) 8 (sA 8)) 9 (sA 9)) 10 (sA 10)) 11 (sA 11)) 12 (sA 12)) 13 (sA 13)) 14 (sA 14)) 15 (sA 15)) 16 (sA 16)) 17 (sA 17)) 18 (sA 18)) 19 (sA 19)))), (AM 4, .inl (cY 0, 110, .inl kp)), (AM 5, .inl (cY 0, 8414, .inl td)), (AM 6, .inl (cY 0, 2, .inl wn)), (AM 13, .inl (cY 0, 4, .inl rw)), (AM 14, .inl (cY 0, 4, .inl br))] := hD1
  have hS := hS1
  clear hP1 hD1 hS1
  refine lv_iinc (v := 20) (lv' := [(1, .int 20), (0, .ref m0)]) hx hb dX8_store_20 hl (k := 0) rfl (by first | rfl | decide) (by decide) rfl (fun ls hl => ?_)
  refine lv_goto (tgt := 2) hx hb dX8_store_23 (by decide) ?_
  refine lv_iload_n hx hb dX8_store_2 rfl (lv_at hl 0 rfl) ?_
  refine lv_bipush (v := 22) hx hb dX8_store_3 (by decide) ?_
  refine lv_icmp_ge (tgt := 26) hx hb dX8_store_5 (by decide) (fun c_41 => ?_) (fun c_41 => ?_)
  · exact absurd c_41 (by decide)
  refine lv_aload_n hx hb dX8_store_8 rfl (lv_at hl 1 rfl) ?_
  refine va_get (D := (dC, dI)) (ci := 8) (v := .ref (AM 3)) (C := RX8) (T := TX8) (N := 17) hx hb hts inw_X8_store_X8 hown hK hP 0 rfl rfl 3 (by decide) (hts (.fieldLink RX8 16 "DuelFramesModel" "round" "[I") (List.mem_of_getElem? (i := 1) rfl)) (fun _ h9 => h9) rfl dX8_store_9 ?_
  refine lv_iload_n hx hb dX8_store_12 rfl (lv_at hl 0 rfl) ?_
  refine lv_aload_n hx hb dX8_store_13 rfl (lv_at hl 1 rfl) ?_
  refine va_get (D := (dC, dI)) (ci := 8) (v := .ref (AM 2)) (C := RX8) (T := TX8) (N := 17) hx hb hts inw_X8_store_X8 hown hK hP 0 rfl rfl 2 (by decide) (hts (.fieldLink RX8 13 "DuelFramesModel" "s" "[I") (List.mem_of_getElem? (i := 2) rfl)) (fun _ h9 => h9) rfl dX8_store_14 ?_
  refine lv_iload_n hx hb dX8_store_17 rfl (lv_at hl 0 rfl) ?_
  refine va_iald hx hb hK hP 2 0 rfl rfl (vin rfl) dX8_store_18 ?_
  refine lv_topi (fun x_42 ex_42 => ?_)
  obtain rfl : x_42 = (sA 20) := ex_42
  refine va_iast hx hb hK hP hD hS 3 0 rfl rfl (vin rfl) dX8_store_19 (fun H locs hP1 hD1 hS1 => ?_)
  clear hP hD hS
  have hP : va_P (dC, dI) vwCl [(m0, .inr (8, mdL AM g)), (AM 0, .inl (cY 0, 72, .inl tb)), (AM 2, .inl (cY 0, 22, .inl sA)), (AM 3, .inl (cY 0, 22, .inl (upd (upd (upd (upd (upd (upd (upd (upd (upd (upd (upd (upd (upd (upd (upd (upd (upd (upd (upd (upd (upd rd 0 (sA 0)) 1 (sA 1)) 2 (sA 2)) 3 (sA 3)) 4 (sA 4)) 5 (sA 5)) 6 (sA 6)) 7 (sA 7)) 8 (sA 8)) 9 (sA 9)) 10 (sA 10)) 11 (sA 11)) 12 (sA 12)) 13 (sA 13)) 14 (sA 14)) 15 (sA 15)) 16 (sA 16)) 17 (sA 17)) 18 (sA 18)) 19 (sA 19)) 20 (sA 20)))), (AM 4, .inl (cY 0, 110, .inl kp)), (AM 5, .inl (cY 0, 8414, .inl td)), (AM 6, .inl (cY 0, 2, .inl wn)), (AM 13, .inl (cY 0, 4, .inl rw)), (AM 14, .inl (cY 0, 4, .inl br))] H := hP1
  have hD : va_D A [(m0, .inr (8, mdL AM g)), (AM 0, .inl (cY 0, 72, .inl tb)), (AM 2, .inl (cY 0, 22, .inl sA)), (AM 3, .inl (cY 0, 22, .inl (upd (upd (upd (upd (upd (upd (upd (upd (upd (upd (upd (upd (upd (upd (upd (upd (upd (upd (upd (upd (upd rd 0 (sA 0)) 1 (sA 1)) 2 (sA 2)) 3 (sA 3)) 4 (sA 4)) 5 (sA 5)) 6 (sA 6)) 7 (sA 7)) 8 (sA 8)) 9 (sA 9)) 10 (sA 10)) 11 (sA 11)) 12 (sA 12)) 13 (sA 13)) 14 (sA 14)) 15 (sA 15)) 16 (sA 16)) 17 (sA 17)) 18 (sA 18)) 19 (sA 19)) 20 (sA 20)))), (AM 4, .inl (cY 0, 110, .inl kp)), (AM 5, .inl (cY 0, 8414, .inl td)), (AM 6, .inl (cY 0, 2, .inl wn)), (AM 13, .inl (cY 0, 4, .inl rw)), (AM 14, .inl (cY 0, 4, .inl br))] := hD1
  have hS := hS1
  clear hP1 hD1 hS1
  refine lv_iinc (v := 21) (lv' := [(1, .int 21), (0, .ref m0)]) hx hb dX8_store_20 hl (k := 0) rfl (by first | rfl | decide) (by decide) rfl (fun ls hl => ?_)
  refine lv_goto (tgt := 2) hx hb dX8_store_23 (by decide) ?_
  refine lv_iload_n hx hb dX8_store_2 rfl (lv_at hl 0 rfl) ?_
  refine lv_bipush (v := 22) hx hb dX8_store_3 (by decide) ?_
  refine lv_icmp_ge (tgt := 26) hx hb dX8_store_5 (by decide) (fun c_43 => ?_) (fun c_43 => ?_)
  · exact absurd c_43 (by decide)
  refine lv_aload_n hx hb dX8_store_8 rfl (lv_at hl 1 rfl) ?_
  refine va_get (D := (dC, dI)) (ci := 8) (v := .ref (AM 3)) (C := RX8) (T := TX8) (N := 17) hx hb hts inw_X8_store_X8 hown hK hP 0 rfl rfl 3 (by decide) (hts (.fieldLink RX8 16 "DuelFramesModel" "round" "[I") (List.mem_of_getElem? (i := 1) rfl)) (fun _ h9 => h9) rfl dX8_store_9 ?_
  refine lv_iload_n hx hb dX8_store_12 rfl (lv_at hl 0 rfl) ?_
  refine lv_aload_n hx hb dX8_store_13 rfl (lv_at hl 1 rfl) ?_
  refine va_get (D := (dC, dI)) (ci := 8) (v := .ref (AM 2)) (C := RX8) (T := TX8) (N := 17) hx hb hts inw_X8_store_X8 hown hK hP 0 rfl rfl 2 (by decide) (hts (.fieldLink RX8 13 "DuelFramesModel" "s" "[I") (List.mem_of_getElem? (i := 2) rfl)) (fun _ h9 => h9) rfl dX8_store_14 ?_
  refine lv_iload_n hx hb dX8_store_17 rfl (lv_at hl 0 rfl) ?_
  refine va_iald hx hb hK hP 2 0 rfl rfl (vin rfl) dX8_store_18 ?_
  refine lv_topi (fun x_44 ex_44 => ?_)
  obtain rfl : x_44 = (sA 21) := ex_44
  refine va_iast hx hb hK hP hD hS 3 0 rfl rfl (vin rfl) dX8_store_19 (fun H locs hP1 hD1 hS1 => ?_)
  clear hP hD hS
  have hP : va_P (dC, dI) vwCl [(m0, .inr (8, mdL AM g)), (AM 0, .inl (cY 0, 72, .inl tb)), (AM 2, .inl (cY 0, 22, .inl sA)), (AM 3, .inl (cY 0, 22, .inl (upd (upd (upd (upd (upd (upd (upd (upd (upd (upd (upd (upd (upd (upd (upd (upd (upd (upd (upd (upd (upd (upd rd 0 (sA 0)) 1 (sA 1)) 2 (sA 2)) 3 (sA 3)) 4 (sA 4)) 5 (sA 5)) 6 (sA 6)) 7 (sA 7)) 8 (sA 8)) 9 (sA 9)) 10 (sA 10)) 11 (sA 11)) 12 (sA 12)) 13 (sA 13)) 14 (sA 14)) 15 (sA 15)) 16 (sA 16)) 17 (sA 17)) 18 (sA 18)) 19 (sA 19)) 20 (sA 20)) 21 (sA 21)))), (AM 4, .inl (cY 0, 110, .inl kp)), (AM 5, .inl (cY 0, 8414, .inl td)), (AM 6, .inl (cY 0, 2, .inl wn)), (AM 13, .inl (cY 0, 4, .inl rw)), (AM 14, .inl (cY 0, 4, .inl br))] H := hP1
  have hD : va_D A [(m0, .inr (8, mdL AM g)), (AM 0, .inl (cY 0, 72, .inl tb)), (AM 2, .inl (cY 0, 22, .inl sA)), (AM 3, .inl (cY 0, 22, .inl (upd (upd (upd (upd (upd (upd (upd (upd (upd (upd (upd (upd (upd (upd (upd (upd (upd (upd (upd (upd (upd (upd rd 0 (sA 0)) 1 (sA 1)) 2 (sA 2)) 3 (sA 3)) 4 (sA 4)) 5 (sA 5)) 6 (sA 6)) 7 (sA 7)) 8 (sA 8)) 9 (sA 9)) 10 (sA 10)) 11 (sA 11)) 12 (sA 12)) 13 (sA 13)) 14 (sA 14)) 15 (sA 15)) 16 (sA 16)) 17 (sA 17)) 18 (sA 18)) 19 (sA 19)) 20 (sA 20)) 21 (sA 21)))), (AM 4, .inl (cY 0, 110, .inl kp)), (AM 5, .inl (cY 0, 8414, .inl td)), (AM 6, .inl (cY 0, 2, .inl wn)), (AM 13, .inl (cY 0, 4, .inl rw)), (AM 14, .inl (cY 0, 4, .inl br))] := hD1
  have hS := hS1
  clear hP1 hD1 hS1
  refine lv_iinc (v := 22) (lv' := [(1, .int 22), (0, .ref m0)]) hx hb dX8_store_20 hl (k := 0) rfl (by first | rfl | decide) (by decide) rfl (fun ls hl => ?_)
  refine lv_goto (tgt := 2) hx hb dX8_store_23 (by decide) ?_
  refine lv_iload_n hx hb dX8_store_2 rfl (lv_at hl 0 rfl) ?_
  refine lv_bipush (v := 22) hx hb dX8_store_3 (by decide) ?_
  refine lv_icmp_ge (tgt := 26) hx hb dX8_store_5 (by decide) (fun c_45 => ?_) (fun c_45 => ?_)
  rotate_left
  · exact absurd (by decide) c_45
  refine lv_iconst (v := 0) hx hb dX8_store_26 (by decide) ?_
  refine lv_istore_n (lv' := [(1, .int 0), (0, .ref m0)]) hx hb dX8_store_27 rfl hl (by decide) rfl (fun ls hl => ?_)
  refine lv_iload_n hx hb dX8_store_28 rfl (lv_at hl 0 rfl) ?_
  refine lv_bipush (v := 7) hx hb dX8_store_29 (by decide) ?_
  refine lv_icmp_ge (tgt := 86) hx hb dX8_store_31 (by decide) (fun c_46 => ?_) (fun c_46 => ?_)
  · exact absurd c_46 (by decide)
  refine lv_aload_n hx hb dX8_store_34 rfl (lv_at hl 1 rfl) ?_
  refine va_get (D := (dC, dI)) (ci := 8) (v := .ref (AM 5)) (C := RX8) (T := TX8) (N := 17) hx hb hts inw_X8_store_X8 hown hK hP 0 rfl rfl 5 (by decide) (hts (.fieldLink RX8 22 "DuelFramesModel" "told" "[I") (List.mem_of_getElem? (i := 3) rfl)) (fun _ h9 => h9) rfl dX8_store_35 ?_
  refine lv_bipush (v := 14) hx hb dX8_store_38 (by decide) ?_
  refine lv_aload_n hx hb dX8_store_40 rfl (lv_at hl 1 rfl) ?_
  refine va_get (D := (dC, dI)) (ci := 8) (v := .int (g 7)) (C := RX8) (T := TX8) (N := 17) hx hb hts inw_X8_store_X8 hown hK hP 0 rfl rfl 7 (by decide) (hts (.fieldLink RX8 28 "DuelFramesModel" "frames" "I") (List.mem_of_getElem? (i := 4) rfl)) (fun _ h9 => h9) rfl dX8_store_41 ?_
  refine lv_imul hx hb dX8_store_44 ?_
  refine lv_iload_n hx hb dX8_store_45 rfl (lv_at hl 0 rfl) ?_
  refine lv_iadd hx hb dX8_store_46 ?_
  refine lv_aload_n hx hb dX8_store_47 rfl (lv_at hl 1 rfl) ?_
  refine va_get (D := (dC, dI)) (ci := 8) (v := .ref (AM 2)) (C := RX8) (T := TX8) (N := 17) hx hb hts inw_X8_store_X8 hown hK hP 0 rfl rfl 2 (by decide) (hts (.fieldLink RX8 13 "DuelFramesModel" "s" "[I") (List.mem_of_getElem? (i := 2) rfl)) (fun _ h9 => h9) rfl dX8_store_48 ?_
  refine lv_iload_n hx hb dX8_store_51 rfl (lv_at hl 0 rfl) ?_
  refine va_iald hx hb hK hP 2 0 rfl rfl (vin rfl) dX8_store_52 ?_
  refine lv_topi (fun x_47 ex_47 => ?_)
  obtain rfl : x_47 = (sA 0) := ex_47
  refine va_iast hx hb hK hP hD hS 5 0 rfl rfl (td_in hfr (vin rfl)) dX8_store_53 (fun H locs hP1 hD1 hS1 => ?_)
  clear hP hD hS
  have hP : va_P (dC, dI) vwCl [(m0, .inr (8, mdL AM g)), (AM 0, .inl (cY 0, 72, .inl tb)), (AM 2, .inl (cY 0, 22, .inl sA)), (AM 3, .inl (cY 0, 22, .inl (upd (upd (upd (upd (upd (upd (upd (upd (upd (upd (upd (upd (upd (upd (upd (upd (upd (upd (upd (upd (upd (upd rd 0 (sA 0)) 1 (sA 1)) 2 (sA 2)) 3 (sA 3)) 4 (sA 4)) 5 (sA 5)) 6 (sA 6)) 7 (sA 7)) 8 (sA 8)) 9 (sA 9)) 10 (sA 10)) 11 (sA 11)) 12 (sA 12)) 13 (sA 13)) 14 (sA 14)) 15 (sA 15)) 16 (sA 16)) 17 (sA 17)) 18 (sA 18)) 19 (sA 19)) 20 (sA 20)) 21 (sA 21)))), (AM 4, .inl (cY 0, 110, .inl kp)), (AM 5, .inl (cY 0, 8414, .inl (upd td ((14 * (g 7)) + 0).toNatClampNeg (sA 0)))), (AM 6, .inl (cY 0, 2, .inl wn)), (AM 13, .inl (cY 0, 4, .inl rw)), (AM 14, .inl (cY 0, 4, .inl br))] H := hP1
  have hD : va_D A [(m0, .inr (8, mdL AM g)), (AM 0, .inl (cY 0, 72, .inl tb)), (AM 2, .inl (cY 0, 22, .inl sA)), (AM 3, .inl (cY 0, 22, .inl (upd (upd (upd (upd (upd (upd (upd (upd (upd (upd (upd (upd (upd (upd (upd (upd (upd (upd (upd (upd (upd (upd rd 0 (sA 0)) 1 (sA 1)) 2 (sA 2)) 3 (sA 3)) 4 (sA 4)) 5 (sA 5)) 6 (sA 6)) 7 (sA 7)) 8 (sA 8)) 9 (sA 9)) 10 (sA 10)) 11 (sA 11)) 12 (sA 12)) 13 (sA 13)) 14 (sA 14)) 15 (sA 15)) 16 (sA 16)) 17 (sA 17)) 18 (sA 18)) 19 (sA 19)) 20 (sA 20)) 21 (sA 21)))), (AM 4, .inl (cY 0, 110, .inl kp)), (AM 5, .inl (cY 0, 8414, .inl (upd td ((14 * (g 7)) + 0).toNatClampNeg (sA 0)))), (AM 6, .inl (cY 0, 2, .inl wn)), (AM 13, .inl (cY 0, 4, .inl rw)), (AM 14, .inl (cY 0, 4, .inl br))] := hD1
  have hS := hS1
  clear hP1 hD1 hS1
  refine lv_aload_n hx hb dX8_store_54 rfl (lv_at hl 1 rfl) ?_
  refine va_get (D := (dC, dI)) (ci := 8) (v := .ref (AM 5)) (C := RX8) (T := TX8) (N := 17) hx hb hts inw_X8_store_X8 hown hK hP 0 rfl rfl 5 (by decide) (hts (.fieldLink RX8 22 "DuelFramesModel" "told" "[I") (List.mem_of_getElem? (i := 3) rfl)) (fun _ h9 => h9) rfl dX8_store_55 ?_
  refine lv_bipush (v := 14) hx hb dX8_store_58 (by decide) ?_
  refine lv_aload_n hx hb dX8_store_60 rfl (lv_at hl 1 rfl) ?_
  refine va_get (D := (dC, dI)) (ci := 8) (v := .int (g 7)) (C := RX8) (T := TX8) (N := 17) hx hb hts inw_X8_store_X8 hown hK hP 0 rfl rfl 7 (by decide) (hts (.fieldLink RX8 28 "DuelFramesModel" "frames" "I") (List.mem_of_getElem? (i := 4) rfl)) (fun _ h9 => h9) rfl dX8_store_61 ?_
  refine lv_imul hx hb dX8_store_64 ?_
  refine lv_bipush (v := 7) hx hb dX8_store_65 (by decide) ?_
  refine lv_iadd hx hb dX8_store_67 ?_
  refine lv_iload_n hx hb dX8_store_68 rfl (lv_at hl 0 rfl) ?_
  refine lv_iadd hx hb dX8_store_69 ?_
  refine lv_aload_n hx hb dX8_store_70 rfl (lv_at hl 1 rfl) ?_
  refine va_get (D := (dC, dI)) (ci := 8) (v := .ref (AM 2)) (C := RX8) (T := TX8) (N := 17) hx hb hts inw_X8_store_X8 hown hK hP 0 rfl rfl 2 (by decide) (hts (.fieldLink RX8 13 "DuelFramesModel" "s" "[I") (List.mem_of_getElem? (i := 2) rfl)) (fun _ h9 => h9) rfl dX8_store_71 ?_
  refine lv_bipush (v := 11) hx hb dX8_store_74 (by decide) ?_
  refine lv_iload_n hx hb dX8_store_76 rfl (lv_at hl 0 rfl) ?_
  refine lv_iadd hx hb dX8_store_77 ?_
  refine lv_topi (fun x_48 ex_48 => ?_)
  obtain rfl : x_48 = 11 := ex_48.trans (by decide)
  refine va_iald hx hb hK hP 2 0 rfl rfl (vin rfl) dX8_store_78 ?_
  refine lv_topi (fun x_49 ex_49 => ?_)
  obtain rfl : x_49 = (sA 11) := ex_49
  refine va_iast hx hb hK hP hD hS 5 0 rfl rfl (td_in2 hfr (vin rfl)) dX8_store_79 (fun H locs hP1 hD1 hS1 => ?_)
  clear hP hD hS
  have hP : va_P (dC, dI) vwCl [(m0, .inr (8, mdL AM g)), (AM 0, .inl (cY 0, 72, .inl tb)), (AM 2, .inl (cY 0, 22, .inl sA)), (AM 3, .inl (cY 0, 22, .inl (upd (upd (upd (upd (upd (upd (upd (upd (upd (upd (upd (upd (upd (upd (upd (upd (upd (upd (upd (upd (upd (upd rd 0 (sA 0)) 1 (sA 1)) 2 (sA 2)) 3 (sA 3)) 4 (sA 4)) 5 (sA 5)) 6 (sA 6)) 7 (sA 7)) 8 (sA 8)) 9 (sA 9)) 10 (sA 10)) 11 (sA 11)) 12 (sA 12)) 13 (sA 13)) 14 (sA 14)) 15 (sA 15)) 16 (sA 16)) 17 (sA 17)) 18 (sA 18)) 19 (sA 19)) 20 (sA 20)) 21 (sA 21)))), (AM 4, .inl (cY 0, 110, .inl kp)), (AM 5, .inl (cY 0, 8414, .inl (upd (upd td ((14 * (g 7)) + 0).toNatClampNeg (sA 0)) (((14 * (g 7)) + 7) + 0).toNatClampNeg (sA 11)))), (AM 6, .inl (cY 0, 2, .inl wn)), (AM 13, .inl (cY 0, 4, .inl rw)), (AM 14, .inl (cY 0, 4, .inl br))] H := hP1
  have hD : va_D A [(m0, .inr (8, mdL AM g)), (AM 0, .inl (cY 0, 72, .inl tb)), (AM 2, .inl (cY 0, 22, .inl sA)), (AM 3, .inl (cY 0, 22, .inl (upd (upd (upd (upd (upd (upd (upd (upd (upd (upd (upd (upd (upd (upd (upd (upd (upd (upd (upd (upd (upd (upd rd 0 (sA 0)) 1 (sA 1)) 2 (sA 2)) 3 (sA 3)) 4 (sA 4)) 5 (sA 5)) 6 (sA 6)) 7 (sA 7)) 8 (sA 8)) 9 (sA 9)) 10 (sA 10)) 11 (sA 11)) 12 (sA 12)) 13 (sA 13)) 14 (sA 14)) 15 (sA 15)) 16 (sA 16)) 17 (sA 17)) 18 (sA 18)) 19 (sA 19)) 20 (sA 20)) 21 (sA 21)))), (AM 4, .inl (cY 0, 110, .inl kp)), (AM 5, .inl (cY 0, 8414, .inl (upd (upd td ((14 * (g 7)) + 0).toNatClampNeg (sA 0)) (((14 * (g 7)) + 7) + 0).toNatClampNeg (sA 11)))), (AM 6, .inl (cY 0, 2, .inl wn)), (AM 13, .inl (cY 0, 4, .inl rw)), (AM 14, .inl (cY 0, 4, .inl br))] := hD1
  have hS := hS1
  clear hP1 hD1 hS1
  refine lv_iinc (v := 1) (lv' := [(1, .int 1), (0, .ref m0)]) hx hb dX8_store_80 hl (k := 0) rfl (by first | rfl | decide) (by decide) rfl (fun ls hl => ?_)
  refine lv_goto (tgt := 28) hx hb dX8_store_83 (by decide) ?_
  refine lv_iload_n hx hb dX8_store_28 rfl (lv_at hl 0 rfl) ?_
  refine lv_bipush (v := 7) hx hb dX8_store_29 (by decide) ?_
  refine lv_icmp_ge (tgt := 86) hx hb dX8_store_31 (by decide) (fun c_50 => ?_) (fun c_50 => ?_)
  · exact absurd c_50 (by decide)
  refine lv_aload_n hx hb dX8_store_34 rfl (lv_at hl 1 rfl) ?_
  refine va_get (D := (dC, dI)) (ci := 8) (v := .ref (AM 5)) (C := RX8) (T := TX8) (N := 17) hx hb hts inw_X8_store_X8 hown hK hP 0 rfl rfl 5 (by decide) (hts (.fieldLink RX8 22 "DuelFramesModel" "told" "[I") (List.mem_of_getElem? (i := 3) rfl)) (fun _ h9 => h9) rfl dX8_store_35 ?_
  refine lv_bipush (v := 14) hx hb dX8_store_38 (by decide) ?_
  refine lv_aload_n hx hb dX8_store_40 rfl (lv_at hl 1 rfl) ?_
  refine va_get (D := (dC, dI)) (ci := 8) (v := .int (g 7)) (C := RX8) (T := TX8) (N := 17) hx hb hts inw_X8_store_X8 hown hK hP 0 rfl rfl 7 (by decide) (hts (.fieldLink RX8 28 "DuelFramesModel" "frames" "I") (List.mem_of_getElem? (i := 4) rfl)) (fun _ h9 => h9) rfl dX8_store_41 ?_
  refine lv_imul hx hb dX8_store_44 ?_
  refine lv_iload_n hx hb dX8_store_45 rfl (lv_at hl 0 rfl) ?_
  refine lv_iadd hx hb dX8_store_46 ?_
  refine lv_aload_n hx hb dX8_store_47 rfl (lv_at hl 1 rfl) ?_
  refine va_get (D := (dC, dI)) (ci := 8) (v := .ref (AM 2)) (C := RX8) (T := TX8) (N := 17) hx hb hts inw_X8_store_X8 hown hK hP 0 rfl rfl 2 (by decide) (hts (.fieldLink RX8 13 "DuelFramesModel" "s" "[I") (List.mem_of_getElem? (i := 2) rfl)) (fun _ h9 => h9) rfl dX8_store_48 ?_
  refine lv_iload_n hx hb dX8_store_51 rfl (lv_at hl 0 rfl) ?_
  refine va_iald hx hb hK hP 2 0 rfl rfl (vin rfl) dX8_store_52 ?_
  refine lv_topi (fun x_51 ex_51 => ?_)
  obtain rfl : x_51 = (sA 1) := ex_51
  refine va_iast hx hb hK hP hD hS 5 0 rfl rfl (td_in hfr (vin rfl)) dX8_store_53 (fun H locs hP1 hD1 hS1 => ?_)
  clear hP hD hS
  have hP : va_P (dC, dI) vwCl [(m0, .inr (8, mdL AM g)), (AM 0, .inl (cY 0, 72, .inl tb)), (AM 2, .inl (cY 0, 22, .inl sA)), (AM 3, .inl (cY 0, 22, .inl (upd (upd (upd (upd (upd (upd (upd (upd (upd (upd (upd (upd (upd (upd (upd (upd (upd (upd (upd (upd (upd (upd rd 0 (sA 0)) 1 (sA 1)) 2 (sA 2)) 3 (sA 3)) 4 (sA 4)) 5 (sA 5)) 6 (sA 6)) 7 (sA 7)) 8 (sA 8)) 9 (sA 9)) 10 (sA 10)) 11 (sA 11)) 12 (sA 12)) 13 (sA 13)) 14 (sA 14)) 15 (sA 15)) 16 (sA 16)) 17 (sA 17)) 18 (sA 18)) 19 (sA 19)) 20 (sA 20)) 21 (sA 21)))), (AM 4, .inl (cY 0, 110, .inl kp)), (AM 5, .inl (cY 0, 8414, .inl (upd (upd (upd td ((14 * (g 7)) + 0).toNatClampNeg (sA 0)) (((14 * (g 7)) + 7) + 0).toNatClampNeg (sA 11)) ((14 * (g 7)) + 1).toNatClampNeg (sA 1)))), (AM 6, .inl (cY 0, 2, .inl wn)), (AM 13, .inl (cY 0, 4, .inl rw)), (AM 14, .inl (cY 0, 4, .inl br))] H := hP1
  have hD : va_D A [(m0, .inr (8, mdL AM g)), (AM 0, .inl (cY 0, 72, .inl tb)), (AM 2, .inl (cY 0, 22, .inl sA)), (AM 3, .inl (cY 0, 22, .inl (upd (upd (upd (upd (upd (upd (upd (upd (upd (upd (upd (upd (upd (upd (upd (upd (upd (upd (upd (upd (upd (upd rd 0 (sA 0)) 1 (sA 1)) 2 (sA 2)) 3 (sA 3)) 4 (sA 4)) 5 (sA 5)) 6 (sA 6)) 7 (sA 7)) 8 (sA 8)) 9 (sA 9)) 10 (sA 10)) 11 (sA 11)) 12 (sA 12)) 13 (sA 13)) 14 (sA 14)) 15 (sA 15)) 16 (sA 16)) 17 (sA 17)) 18 (sA 18)) 19 (sA 19)) 20 (sA 20)) 21 (sA 21)))), (AM 4, .inl (cY 0, 110, .inl kp)), (AM 5, .inl (cY 0, 8414, .inl (upd (upd (upd td ((14 * (g 7)) + 0).toNatClampNeg (sA 0)) (((14 * (g 7)) + 7) + 0).toNatClampNeg (sA 11)) ((14 * (g 7)) + 1).toNatClampNeg (sA 1)))), (AM 6, .inl (cY 0, 2, .inl wn)), (AM 13, .inl (cY 0, 4, .inl rw)), (AM 14, .inl (cY 0, 4, .inl br))] := hD1
  have hS := hS1
  clear hP1 hD1 hS1
  refine lv_aload_n hx hb dX8_store_54 rfl (lv_at hl 1 rfl) ?_
  refine va_get (D := (dC, dI)) (ci := 8) (v := .ref (AM 5)) (C := RX8) (T := TX8) (N := 17) hx hb hts inw_X8_store_X8 hown hK hP 0 rfl rfl 5 (by decide) (hts (.fieldLink RX8 22 "DuelFramesModel" "told" "[I") (List.mem_of_getElem? (i := 3) rfl)) (fun _ h9 => h9) rfl dX8_store_55 ?_
  refine lv_bipush (v := 14) hx hb dX8_store_58 (by decide) ?_
  refine lv_aload_n hx hb dX8_store_60 rfl (lv_at hl 1 rfl) ?_
  refine va_get (D := (dC, dI)) (ci := 8) (v := .int (g 7)) (C := RX8) (T := TX8) (N := 17) hx hb hts inw_X8_store_X8 hown hK hP 0 rfl rfl 7 (by decide) (hts (.fieldLink RX8 28 "DuelFramesModel" "frames" "I") (List.mem_of_getElem? (i := 4) rfl)) (fun _ h9 => h9) rfl dX8_store_61 ?_
  refine lv_imul hx hb dX8_store_64 ?_
  refine lv_bipush (v := 7) hx hb dX8_store_65 (by decide) ?_
  refine lv_iadd hx hb dX8_store_67 ?_
  refine lv_iload_n hx hb dX8_store_68 rfl (lv_at hl 0 rfl) ?_
  refine lv_iadd hx hb dX8_store_69 ?_
  refine lv_aload_n hx hb dX8_store_70 rfl (lv_at hl 1 rfl) ?_
  refine va_get (D := (dC, dI)) (ci := 8) (v := .ref (AM 2)) (C := RX8) (T := TX8) (N := 17) hx hb hts inw_X8_store_X8 hown hK hP 0 rfl rfl 2 (by decide) (hts (.fieldLink RX8 13 "DuelFramesModel" "s" "[I") (List.mem_of_getElem? (i := 2) rfl)) (fun _ h9 => h9) rfl dX8_store_71 ?_
  refine lv_bipush (v := 11) hx hb dX8_store_74 (by decide) ?_
  refine lv_iload_n hx hb dX8_store_76 rfl (lv_at hl 0 rfl) ?_
  refine lv_iadd hx hb dX8_store_77 ?_
  refine lv_topi (fun x_52 ex_52 => ?_)
  obtain rfl : x_52 = 12 := ex_52.trans (by decide)
  refine va_iald hx hb hK hP 2 0 rfl rfl (vin rfl) dX8_store_78 ?_
  refine lv_topi (fun x_53 ex_53 => ?_)
  obtain rfl : x_53 = (sA 12) := ex_53
  refine va_iast hx hb hK hP hD hS 5 0 rfl rfl (td_in2 hfr (vin rfl)) dX8_store_79 (fun H locs hP1 hD1 hS1 => ?_)
  clear hP hD hS
  have hP : va_P (dC, dI) vwCl [(m0, .inr (8, mdL AM g)), (AM 0, .inl (cY 0, 72, .inl tb)), (AM 2, .inl (cY 0, 22, .inl sA)), (AM 3, .inl (cY 0, 22, .inl (upd (upd (upd (upd (upd (upd (upd (upd (upd (upd (upd (upd (upd (upd (upd (upd (upd (upd (upd (upd (upd (upd rd 0 (sA 0)) 1 (sA 1)) 2 (sA 2)) 3 (sA 3)) 4 (sA 4)) 5 (sA 5)) 6 (sA 6)) 7 (sA 7)) 8 (sA 8)) 9 (sA 9)) 10 (sA 10)) 11 (sA 11)) 12 (sA 12)) 13 (sA 13)) 14 (sA 14)) 15 (sA 15)) 16 (sA 16)) 17 (sA 17)) 18 (sA 18)) 19 (sA 19)) 20 (sA 20)) 21 (sA 21)))), (AM 4, .inl (cY 0, 110, .inl kp)), (AM 5, .inl (cY 0, 8414, .inl (upd (upd (upd (upd td ((14 * (g 7)) + 0).toNatClampNeg (sA 0)) (((14 * (g 7)) + 7) + 0).toNatClampNeg (sA 11)) ((14 * (g 7)) + 1).toNatClampNeg (sA 1)) (((14 * (g 7)) + 7) + 1).toNatClampNeg (sA 12)))), (AM 6, .inl (cY 0, 2, .inl wn)), (AM 13, .inl (cY 0, 4, .inl rw)), (AM 14, .inl (cY 0, 4, .inl br))] H := hP1
  have hD : va_D A [(m0, .inr (8, mdL AM g)), (AM 0, .inl (cY 0, 72, .inl tb)), (AM 2, .inl (cY 0, 22, .inl sA)), (AM 3, .inl (cY 0, 22, .inl (upd (upd (upd (upd (upd (upd (upd (upd (upd (upd (upd (upd (upd (upd (upd (upd (upd (upd (upd (upd (upd (upd rd 0 (sA 0)) 1 (sA 1)) 2 (sA 2)) 3 (sA 3)) 4 (sA 4)) 5 (sA 5)) 6 (sA 6)) 7 (sA 7)) 8 (sA 8)) 9 (sA 9)) 10 (sA 10)) 11 (sA 11)) 12 (sA 12)) 13 (sA 13)) 14 (sA 14)) 15 (sA 15)) 16 (sA 16)) 17 (sA 17)) 18 (sA 18)) 19 (sA 19)) 20 (sA 20)) 21 (sA 21)))), (AM 4, .inl (cY 0, 110, .inl kp)), (AM 5, .inl (cY 0, 8414, .inl (upd (upd (upd (upd td ((14 * (g 7)) + 0).toNatClampNeg (sA 0)) (((14 * (g 7)) + 7) + 0).toNatClampNeg (sA 11)) ((14 * (g 7)) + 1).toNatClampNeg (sA 1)) (((14 * (g 7)) + 7) + 1).toNatClampNeg (sA 12)))), (AM 6, .inl (cY 0, 2, .inl wn)), (AM 13, .inl (cY 0, 4, .inl rw)), (AM 14, .inl (cY 0, 4, .inl br))] := hD1
  have hS := hS1
  clear hP1 hD1 hS1
  refine lv_iinc (v := 2) (lv' := [(1, .int 2), (0, .ref m0)]) hx hb dX8_store_80 hl (k := 0) rfl (by first | rfl | decide) (by decide) rfl (fun ls hl => ?_)
  refine lv_goto (tgt := 28) hx hb dX8_store_83 (by decide) ?_
  refine lv_iload_n hx hb dX8_store_28 rfl (lv_at hl 0 rfl) ?_
  refine lv_bipush (v := 7) hx hb dX8_store_29 (by decide) ?_
  refine lv_icmp_ge (tgt := 86) hx hb dX8_store_31 (by decide) (fun c_54 => ?_) (fun c_54 => ?_)
  · exact absurd c_54 (by decide)
  refine lv_aload_n hx hb dX8_store_34 rfl (lv_at hl 1 rfl) ?_
  refine va_get (D := (dC, dI)) (ci := 8) (v := .ref (AM 5)) (C := RX8) (T := TX8) (N := 17) hx hb hts inw_X8_store_X8 hown hK hP 0 rfl rfl 5 (by decide) (hts (.fieldLink RX8 22 "DuelFramesModel" "told" "[I") (List.mem_of_getElem? (i := 3) rfl)) (fun _ h9 => h9) rfl dX8_store_35 ?_
  refine lv_bipush (v := 14) hx hb dX8_store_38 (by decide) ?_
  refine lv_aload_n hx hb dX8_store_40 rfl (lv_at hl 1 rfl) ?_
  refine va_get (D := (dC, dI)) (ci := 8) (v := .int (g 7)) (C := RX8) (T := TX8) (N := 17) hx hb hts inw_X8_store_X8 hown hK hP 0 rfl rfl 7 (by decide) (hts (.fieldLink RX8 28 "DuelFramesModel" "frames" "I") (List.mem_of_getElem? (i := 4) rfl)) (fun _ h9 => h9) rfl dX8_store_41 ?_
  refine lv_imul hx hb dX8_store_44 ?_
  refine lv_iload_n hx hb dX8_store_45 rfl (lv_at hl 0 rfl) ?_
  refine lv_iadd hx hb dX8_store_46 ?_
  refine lv_aload_n hx hb dX8_store_47 rfl (lv_at hl 1 rfl) ?_
  refine va_get (D := (dC, dI)) (ci := 8) (v := .ref (AM 2)) (C := RX8) (T := TX8) (N := 17) hx hb hts inw_X8_store_X8 hown hK hP 0 rfl rfl 2 (by decide) (hts (.fieldLink RX8 13 "DuelFramesModel" "s" "[I") (List.mem_of_getElem? (i := 2) rfl)) (fun _ h9 => h9) rfl dX8_store_48 ?_
  refine lv_iload_n hx hb dX8_store_51 rfl (lv_at hl 0 rfl) ?_
  refine va_iald hx hb hK hP 2 0 rfl rfl (vin rfl) dX8_store_52 ?_
  refine lv_topi (fun x_55 ex_55 => ?_)
  obtain rfl : x_55 = (sA 2) := ex_55
  refine va_iast hx hb hK hP hD hS 5 0 rfl rfl (td_in hfr (vin rfl)) dX8_store_53 (fun H locs hP1 hD1 hS1 => ?_)
  clear hP hD hS
  have hP : va_P (dC, dI) vwCl [(m0, .inr (8, mdL AM g)), (AM 0, .inl (cY 0, 72, .inl tb)), (AM 2, .inl (cY 0, 22, .inl sA)), (AM 3, .inl (cY 0, 22, .inl (upd (upd (upd (upd (upd (upd (upd (upd (upd (upd (upd (upd (upd (upd (upd (upd (upd (upd (upd (upd (upd (upd rd 0 (sA 0)) 1 (sA 1)) 2 (sA 2)) 3 (sA 3)) 4 (sA 4)) 5 (sA 5)) 6 (sA 6)) 7 (sA 7)) 8 (sA 8)) 9 (sA 9)) 10 (sA 10)) 11 (sA 11)) 12 (sA 12)) 13 (sA 13)) 14 (sA 14)) 15 (sA 15)) 16 (sA 16)) 17 (sA 17)) 18 (sA 18)) 19 (sA 19)) 20 (sA 20)) 21 (sA 21)))), (AM 4, .inl (cY 0, 110, .inl kp)), (AM 5, .inl (cY 0, 8414, .inl (upd (upd (upd (upd (upd td ((14 * (g 7)) + 0).toNatClampNeg (sA 0)) (((14 * (g 7)) + 7) + 0).toNatClampNeg (sA 11)) ((14 * (g 7)) + 1).toNatClampNeg (sA 1)) (((14 * (g 7)) + 7) + 1).toNatClampNeg (sA 12)) ((14 * (g 7)) + 2).toNatClampNeg (sA 2)))), (AM 6, .inl (cY 0, 2, .inl wn)), (AM 13, .inl (cY 0, 4, .inl rw)), (AM 14, .inl (cY 0, 4, .inl br))] H := hP1
  have hD : va_D A [(m0, .inr (8, mdL AM g)), (AM 0, .inl (cY 0, 72, .inl tb)), (AM 2, .inl (cY 0, 22, .inl sA)), (AM 3, .inl (cY 0, 22, .inl (upd (upd (upd (upd (upd (upd (upd (upd (upd (upd (upd (upd (upd (upd (upd (upd (upd (upd (upd (upd (upd (upd rd 0 (sA 0)) 1 (sA 1)) 2 (sA 2)) 3 (sA 3)) 4 (sA 4)) 5 (sA 5)) 6 (sA 6)) 7 (sA 7)) 8 (sA 8)) 9 (sA 9)) 10 (sA 10)) 11 (sA 11)) 12 (sA 12)) 13 (sA 13)) 14 (sA 14)) 15 (sA 15)) 16 (sA 16)) 17 (sA 17)) 18 (sA 18)) 19 (sA 19)) 20 (sA 20)) 21 (sA 21)))), (AM 4, .inl (cY 0, 110, .inl kp)), (AM 5, .inl (cY 0, 8414, .inl (upd (upd (upd (upd (upd td ((14 * (g 7)) + 0).toNatClampNeg (sA 0)) (((14 * (g 7)) + 7) + 0).toNatClampNeg (sA 11)) ((14 * (g 7)) + 1).toNatClampNeg (sA 1)) (((14 * (g 7)) + 7) + 1).toNatClampNeg (sA 12)) ((14 * (g 7)) + 2).toNatClampNeg (sA 2)))), (AM 6, .inl (cY 0, 2, .inl wn)), (AM 13, .inl (cY 0, 4, .inl rw)), (AM 14, .inl (cY 0, 4, .inl br))] := hD1
  have hS := hS1
  clear hP1 hD1 hS1
  refine lv_aload_n hx hb dX8_store_54 rfl (lv_at hl 1 rfl) ?_
  refine va_get (D := (dC, dI)) (ci := 8) (v := .ref (AM 5)) (C := RX8) (T := TX8) (N := 17) hx hb hts inw_X8_store_X8 hown hK hP 0 rfl rfl 5 (by decide) (hts (.fieldLink RX8 22 "DuelFramesModel" "told" "[I") (List.mem_of_getElem? (i := 3) rfl)) (fun _ h9 => h9) rfl dX8_store_55 ?_
  refine lv_bipush (v := 14) hx hb dX8_store_58 (by decide) ?_
  refine lv_aload_n hx hb dX8_store_60 rfl (lv_at hl 1 rfl) ?_
  refine va_get (D := (dC, dI)) (ci := 8) (v := .int (g 7)) (C := RX8) (T := TX8) (N := 17) hx hb hts inw_X8_store_X8 hown hK hP 0 rfl rfl 7 (by decide) (hts (.fieldLink RX8 28 "DuelFramesModel" "frames" "I") (List.mem_of_getElem? (i := 4) rfl)) (fun _ h9 => h9) rfl dX8_store_61 ?_
  refine lv_imul hx hb dX8_store_64 ?_
  refine lv_bipush (v := 7) hx hb dX8_store_65 (by decide) ?_
  refine lv_iadd hx hb dX8_store_67 ?_
  refine lv_iload_n hx hb dX8_store_68 rfl (lv_at hl 0 rfl) ?_
  refine lv_iadd hx hb dX8_store_69 ?_
  refine lv_aload_n hx hb dX8_store_70 rfl (lv_at hl 1 rfl) ?_
  refine va_get (D := (dC, dI)) (ci := 8) (v := .ref (AM 2)) (C := RX8) (T := TX8) (N := 17) hx hb hts inw_X8_store_X8 hown hK hP 0 rfl rfl 2 (by decide) (hts (.fieldLink RX8 13 "DuelFramesModel" "s" "[I") (List.mem_of_getElem? (i := 2) rfl)) (fun _ h9 => h9) rfl dX8_store_71 ?_
  refine lv_bipush (v := 11) hx hb dX8_store_74 (by decide) ?_
  refine lv_iload_n hx hb dX8_store_76 rfl (lv_at hl 0 rfl) ?_
  refine lv_iadd hx hb dX8_store_77 ?_
  refine lv_topi (fun x_56 ex_56 => ?_)
  obtain rfl : x_56 = 13 := ex_56.trans (by decide)
  refine va_iald hx hb hK hP 2 0 rfl rfl (vin rfl) dX8_store_78 ?_
  refine lv_topi (fun x_57 ex_57 => ?_)
  obtain rfl : x_57 = (sA 13) := ex_57
  refine va_iast hx hb hK hP hD hS 5 0 rfl rfl (td_in2 hfr (vin rfl)) dX8_store_79 (fun H locs hP1 hD1 hS1 => ?_)
  clear hP hD hS
  have hP : va_P (dC, dI) vwCl [(m0, .inr (8, mdL AM g)), (AM 0, .inl (cY 0, 72, .inl tb)), (AM 2, .inl (cY 0, 22, .inl sA)), (AM 3, .inl (cY 0, 22, .inl (upd (upd (upd (upd (upd (upd (upd (upd (upd (upd (upd (upd (upd (upd (upd (upd (upd (upd (upd (upd (upd (upd rd 0 (sA 0)) 1 (sA 1)) 2 (sA 2)) 3 (sA 3)) 4 (sA 4)) 5 (sA 5)) 6 (sA 6)) 7 (sA 7)) 8 (sA 8)) 9 (sA 9)) 10 (sA 10)) 11 (sA 11)) 12 (sA 12)) 13 (sA 13)) 14 (sA 14)) 15 (sA 15)) 16 (sA 16)) 17 (sA 17)) 18 (sA 18)) 19 (sA 19)) 20 (sA 20)) 21 (sA 21)))), (AM 4, .inl (cY 0, 110, .inl kp)), (AM 5, .inl (cY 0, 8414, .inl (upd (upd (upd (upd (upd (upd td ((14 * (g 7)) + 0).toNatClampNeg (sA 0)) (((14 * (g 7)) + 7) + 0).toNatClampNeg (sA 11)) ((14 * (g 7)) + 1).toNatClampNeg (sA 1)) (((14 * (g 7)) + 7) + 1).toNatClampNeg (sA 12)) ((14 * (g 7)) + 2).toNatClampNeg (sA 2)) (((14 * (g 7)) + 7) + 2).toNatClampNeg (sA 13)))), (AM 6, .inl (cY 0, 2, .inl wn)), (AM 13, .inl (cY 0, 4, .inl rw)), (AM 14, .inl (cY 0, 4, .inl br))] H := hP1
  have hD : va_D A [(m0, .inr (8, mdL AM g)), (AM 0, .inl (cY 0, 72, .inl tb)), (AM 2, .inl (cY 0, 22, .inl sA)), (AM 3, .inl (cY 0, 22, .inl (upd (upd (upd (upd (upd (upd (upd (upd (upd (upd (upd (upd (upd (upd (upd (upd (upd (upd (upd (upd (upd (upd rd 0 (sA 0)) 1 (sA 1)) 2 (sA 2)) 3 (sA 3)) 4 (sA 4)) 5 (sA 5)) 6 (sA 6)) 7 (sA 7)) 8 (sA 8)) 9 (sA 9)) 10 (sA 10)) 11 (sA 11)) 12 (sA 12)) 13 (sA 13)) 14 (sA 14)) 15 (sA 15)) 16 (sA 16)) 17 (sA 17)) 18 (sA 18)) 19 (sA 19)) 20 (sA 20)) 21 (sA 21)))), (AM 4, .inl (cY 0, 110, .inl kp)), (AM 5, .inl (cY 0, 8414, .inl (upd (upd (upd (upd (upd (upd td ((14 * (g 7)) + 0).toNatClampNeg (sA 0)) (((14 * (g 7)) + 7) + 0).toNatClampNeg (sA 11)) ((14 * (g 7)) + 1).toNatClampNeg (sA 1)) (((14 * (g 7)) + 7) + 1).toNatClampNeg (sA 12)) ((14 * (g 7)) + 2).toNatClampNeg (sA 2)) (((14 * (g 7)) + 7) + 2).toNatClampNeg (sA 13)))), (AM 6, .inl (cY 0, 2, .inl wn)), (AM 13, .inl (cY 0, 4, .inl rw)), (AM 14, .inl (cY 0, 4, .inl br))] := hD1
  have hS := hS1
  clear hP1 hD1 hS1
  refine lv_iinc (v := 3) (lv' := [(1, .int 3), (0, .ref m0)]) hx hb dX8_store_80 hl (k := 0) rfl (by first | rfl | decide) (by decide) rfl (fun ls hl => ?_)
  refine lv_goto (tgt := 28) hx hb dX8_store_83 (by decide) ?_
  refine lv_iload_n hx hb dX8_store_28 rfl (lv_at hl 0 rfl) ?_
  refine lv_bipush (v := 7) hx hb dX8_store_29 (by decide) ?_
  refine lv_icmp_ge (tgt := 86) hx hb dX8_store_31 (by decide) (fun c_58 => ?_) (fun c_58 => ?_)
  · exact absurd c_58 (by decide)
  refine lv_aload_n hx hb dX8_store_34 rfl (lv_at hl 1 rfl) ?_
  refine va_get (D := (dC, dI)) (ci := 8) (v := .ref (AM 5)) (C := RX8) (T := TX8) (N := 17) hx hb hts inw_X8_store_X8 hown hK hP 0 rfl rfl 5 (by decide) (hts (.fieldLink RX8 22 "DuelFramesModel" "told" "[I") (List.mem_of_getElem? (i := 3) rfl)) (fun _ h9 => h9) rfl dX8_store_35 ?_
  refine lv_bipush (v := 14) hx hb dX8_store_38 (by decide) ?_
  refine lv_aload_n hx hb dX8_store_40 rfl (lv_at hl 1 rfl) ?_
  refine va_get (D := (dC, dI)) (ci := 8) (v := .int (g 7)) (C := RX8) (T := TX8) (N := 17) hx hb hts inw_X8_store_X8 hown hK hP 0 rfl rfl 7 (by decide) (hts (.fieldLink RX8 28 "DuelFramesModel" "frames" "I") (List.mem_of_getElem? (i := 4) rfl)) (fun _ h9 => h9) rfl dX8_store_41 ?_
  refine lv_imul hx hb dX8_store_44 ?_
  refine lv_iload_n hx hb dX8_store_45 rfl (lv_at hl 0 rfl) ?_
  refine lv_iadd hx hb dX8_store_46 ?_
  refine lv_aload_n hx hb dX8_store_47 rfl (lv_at hl 1 rfl) ?_
  refine va_get (D := (dC, dI)) (ci := 8) (v := .ref (AM 2)) (C := RX8) (T := TX8) (N := 17) hx hb hts inw_X8_store_X8 hown hK hP 0 rfl rfl 2 (by decide) (hts (.fieldLink RX8 13 "DuelFramesModel" "s" "[I") (List.mem_of_getElem? (i := 2) rfl)) (fun _ h9 => h9) rfl dX8_store_48 ?_
  refine lv_iload_n hx hb dX8_store_51 rfl (lv_at hl 0 rfl) ?_
  refine va_iald hx hb hK hP 2 0 rfl rfl (vin rfl) dX8_store_52 ?_
  refine lv_topi (fun x_59 ex_59 => ?_)
  obtain rfl : x_59 = (sA 3) := ex_59
  refine va_iast hx hb hK hP hD hS 5 0 rfl rfl (td_in hfr (vin rfl)) dX8_store_53 (fun H locs hP1 hD1 hS1 => ?_)
  clear hP hD hS
  have hP : va_P (dC, dI) vwCl [(m0, .inr (8, mdL AM g)), (AM 0, .inl (cY 0, 72, .inl tb)), (AM 2, .inl (cY 0, 22, .inl sA)), (AM 3, .inl (cY 0, 22, .inl (upd (upd (upd (upd (upd (upd (upd (upd (upd (upd (upd (upd (upd (upd (upd (upd (upd (upd (upd (upd (upd (upd rd 0 (sA 0)) 1 (sA 1)) 2 (sA 2)) 3 (sA 3)) 4 (sA 4)) 5 (sA 5)) 6 (sA 6)) 7 (sA 7)) 8 (sA 8)) 9 (sA 9)) 10 (sA 10)) 11 (sA 11)) 12 (sA 12)) 13 (sA 13)) 14 (sA 14)) 15 (sA 15)) 16 (sA 16)) 17 (sA 17)) 18 (sA 18)) 19 (sA 19)) 20 (sA 20)) 21 (sA 21)))), (AM 4, .inl (cY 0, 110, .inl kp)), (AM 5, .inl (cY 0, 8414, .inl (upd (upd (upd (upd (upd (upd (upd td ((14 * (g 7)) + 0).toNatClampNeg (sA 0)) (((14 * (g 7)) + 7) + 0).toNatClampNeg (sA 11)) ((14 * (g 7)) + 1).toNatClampNeg (sA 1)) (((14 * (g 7)) + 7) + 1).toNatClampNeg (sA 12)) ((14 * (g 7)) + 2).toNatClampNeg (sA 2)) (((14 * (g 7)) + 7) + 2).toNatClampNeg (sA 13)) ((14 * (g 7)) + 3).toNatClampNeg (sA 3)))), (AM 6, .inl (cY 0, 2, .inl wn)), (AM 13, .inl (cY 0, 4, .inl rw)), (AM 14, .inl (cY 0, 4, .inl br))] H := hP1
  have hD : va_D A [(m0, .inr (8, mdL AM g)), (AM 0, .inl (cY 0, 72, .inl tb)), (AM 2, .inl (cY 0, 22, .inl sA)), (AM 3, .inl (cY 0, 22, .inl (upd (upd (upd (upd (upd (upd (upd (upd (upd (upd (upd (upd (upd (upd (upd (upd (upd (upd (upd (upd (upd (upd rd 0 (sA 0)) 1 (sA 1)) 2 (sA 2)) 3 (sA 3)) 4 (sA 4)) 5 (sA 5)) 6 (sA 6)) 7 (sA 7)) 8 (sA 8)) 9 (sA 9)) 10 (sA 10)) 11 (sA 11)) 12 (sA 12)) 13 (sA 13)) 14 (sA 14)) 15 (sA 15)) 16 (sA 16)) 17 (sA 17)) 18 (sA 18)) 19 (sA 19)) 20 (sA 20)) 21 (sA 21)))), (AM 4, .inl (cY 0, 110, .inl kp)), (AM 5, .inl (cY 0, 8414, .inl (upd (upd (upd (upd (upd (upd (upd td ((14 * (g 7)) + 0).toNatClampNeg (sA 0)) (((14 * (g 7)) + 7) + 0).toNatClampNeg (sA 11)) ((14 * (g 7)) + 1).toNatClampNeg (sA 1)) (((14 * (g 7)) + 7) + 1).toNatClampNeg (sA 12)) ((14 * (g 7)) + 2).toNatClampNeg (sA 2)) (((14 * (g 7)) + 7) + 2).toNatClampNeg (sA 13)) ((14 * (g 7)) + 3).toNatClampNeg (sA 3)))), (AM 6, .inl (cY 0, 2, .inl wn)), (AM 13, .inl (cY 0, 4, .inl rw)), (AM 14, .inl (cY 0, 4, .inl br))] := hD1
  have hS := hS1
  clear hP1 hD1 hS1
  refine lv_aload_n hx hb dX8_store_54 rfl (lv_at hl 1 rfl) ?_
  refine va_get (D := (dC, dI)) (ci := 8) (v := .ref (AM 5)) (C := RX8) (T := TX8) (N := 17) hx hb hts inw_X8_store_X8 hown hK hP 0 rfl rfl 5 (by decide) (hts (.fieldLink RX8 22 "DuelFramesModel" "told" "[I") (List.mem_of_getElem? (i := 3) rfl)) (fun _ h9 => h9) rfl dX8_store_55 ?_
  refine lv_bipush (v := 14) hx hb dX8_store_58 (by decide) ?_
  refine lv_aload_n hx hb dX8_store_60 rfl (lv_at hl 1 rfl) ?_
  refine va_get (D := (dC, dI)) (ci := 8) (v := .int (g 7)) (C := RX8) (T := TX8) (N := 17) hx hb hts inw_X8_store_X8 hown hK hP 0 rfl rfl 7 (by decide) (hts (.fieldLink RX8 28 "DuelFramesModel" "frames" "I") (List.mem_of_getElem? (i := 4) rfl)) (fun _ h9 => h9) rfl dX8_store_61 ?_
  refine lv_imul hx hb dX8_store_64 ?_
  refine lv_bipush (v := 7) hx hb dX8_store_65 (by decide) ?_
  refine lv_iadd hx hb dX8_store_67 ?_
  refine lv_iload_n hx hb dX8_store_68 rfl (lv_at hl 0 rfl) ?_
  refine lv_iadd hx hb dX8_store_69 ?_
  refine lv_aload_n hx hb dX8_store_70 rfl (lv_at hl 1 rfl) ?_
  refine va_get (D := (dC, dI)) (ci := 8) (v := .ref (AM 2)) (C := RX8) (T := TX8) (N := 17) hx hb hts inw_X8_store_X8 hown hK hP 0 rfl rfl 2 (by decide) (hts (.fieldLink RX8 13 "DuelFramesModel" "s" "[I") (List.mem_of_getElem? (i := 2) rfl)) (fun _ h9 => h9) rfl dX8_store_71 ?_
  refine lv_bipush (v := 11) hx hb dX8_store_74 (by decide) ?_
  refine lv_iload_n hx hb dX8_store_76 rfl (lv_at hl 0 rfl) ?_
  refine lv_iadd hx hb dX8_store_77 ?_
  refine lv_topi (fun x_60 ex_60 => ?_)
  obtain rfl : x_60 = 14 := ex_60.trans (by decide)
  refine va_iald hx hb hK hP 2 0 rfl rfl (vin rfl) dX8_store_78 ?_
  refine lv_topi (fun x_61 ex_61 => ?_)
  obtain rfl : x_61 = (sA 14) := ex_61
  refine va_iast hx hb hK hP hD hS 5 0 rfl rfl (td_in2 hfr (vin rfl)) dX8_store_79 (fun H locs hP1 hD1 hS1 => ?_)
  clear hP hD hS
  have hP : va_P (dC, dI) vwCl [(m0, .inr (8, mdL AM g)), (AM 0, .inl (cY 0, 72, .inl tb)), (AM 2, .inl (cY 0, 22, .inl sA)), (AM 3, .inl (cY 0, 22, .inl (upd (upd (upd (upd (upd (upd (upd (upd (upd (upd (upd (upd (upd (upd (upd (upd (upd (upd (upd (upd (upd (upd rd 0 (sA 0)) 1 (sA 1)) 2 (sA 2)) 3 (sA 3)) 4 (sA 4)) 5 (sA 5)) 6 (sA 6)) 7 (sA 7)) 8 (sA 8)) 9 (sA 9)) 10 (sA 10)) 11 (sA 11)) 12 (sA 12)) 13 (sA 13)) 14 (sA 14)) 15 (sA 15)) 16 (sA 16)) 17 (sA 17)) 18 (sA 18)) 19 (sA 19)) 20 (sA 20)) 21 (sA 21)))), (AM 4, .inl (cY 0, 110, .inl kp)), (AM 5, .inl (cY 0, 8414, .inl (upd (upd (upd (upd (upd (upd (upd (upd td ((14 * (g 7)) + 0).toNatClampNeg (sA 0)) (((14 * (g 7)) + 7) + 0).toNatClampNeg (sA 11)) ((14 * (g 7)) + 1).toNatClampNeg (sA 1)) (((14 * (g 7)) + 7) + 1).toNatClampNeg (sA 12)) ((14 * (g 7)) + 2).toNatClampNeg (sA 2)) (((14 * (g 7)) + 7) + 2).toNatClampNeg (sA 13)) ((14 * (g 7)) + 3).toNatClampNeg (sA 3)) (((14 * (g 7)) + 7) + 3).toNatClampNeg (sA 14)))), (AM 6, .inl (cY 0, 2, .inl wn)), (AM 13, .inl (cY 0, 4, .inl rw)), (AM 14, .inl (cY 0, 4, .inl br))] H := hP1
  have hD : va_D A [(m0, .inr (8, mdL AM g)), (AM 0, .inl (cY 0, 72, .inl tb)), (AM 2, .inl (cY 0, 22, .inl sA)), (AM 3, .inl (cY 0, 22, .inl (upd (upd (upd (upd (upd (upd (upd (upd (upd (upd (upd (upd (upd (upd (upd (upd (upd (upd (upd (upd (upd (upd rd 0 (sA 0)) 1 (sA 1)) 2 (sA 2)) 3 (sA 3)) 4 (sA 4)) 5 (sA 5)) 6 (sA 6)) 7 (sA 7)) 8 (sA 8)) 9 (sA 9)) 10 (sA 10)) 11 (sA 11)) 12 (sA 12)) 13 (sA 13)) 14 (sA 14)) 15 (sA 15)) 16 (sA 16)) 17 (sA 17)) 18 (sA 18)) 19 (sA 19)) 20 (sA 20)) 21 (sA 21)))), (AM 4, .inl (cY 0, 110, .inl kp)), (AM 5, .inl (cY 0, 8414, .inl (upd (upd (upd (upd (upd (upd (upd (upd td ((14 * (g 7)) + 0).toNatClampNeg (sA 0)) (((14 * (g 7)) + 7) + 0).toNatClampNeg (sA 11)) ((14 * (g 7)) + 1).toNatClampNeg (sA 1)) (((14 * (g 7)) + 7) + 1).toNatClampNeg (sA 12)) ((14 * (g 7)) + 2).toNatClampNeg (sA 2)) (((14 * (g 7)) + 7) + 2).toNatClampNeg (sA 13)) ((14 * (g 7)) + 3).toNatClampNeg (sA 3)) (((14 * (g 7)) + 7) + 3).toNatClampNeg (sA 14)))), (AM 6, .inl (cY 0, 2, .inl wn)), (AM 13, .inl (cY 0, 4, .inl rw)), (AM 14, .inl (cY 0, 4, .inl br))] := hD1
  have hS := hS1
  clear hP1 hD1 hS1
  refine lv_iinc (v := 4) (lv' := [(1, .int 4), (0, .ref m0)]) hx hb dX8_store_80 hl (k := 0) rfl (by first | rfl | decide) (by decide) rfl (fun ls hl => ?_)
  refine lv_goto (tgt := 28) hx hb dX8_store_83 (by decide) ?_
  refine lv_iload_n hx hb dX8_store_28 rfl (lv_at hl 0 rfl) ?_
  refine lv_bipush (v := 7) hx hb dX8_store_29 (by decide) ?_
  refine lv_icmp_ge (tgt := 86) hx hb dX8_store_31 (by decide) (fun c_62 => ?_) (fun c_62 => ?_)
  · exact absurd c_62 (by decide)
  refine lv_aload_n hx hb dX8_store_34 rfl (lv_at hl 1 rfl) ?_
  refine va_get (D := (dC, dI)) (ci := 8) (v := .ref (AM 5)) (C := RX8) (T := TX8) (N := 17) hx hb hts inw_X8_store_X8 hown hK hP 0 rfl rfl 5 (by decide) (hts (.fieldLink RX8 22 "DuelFramesModel" "told" "[I") (List.mem_of_getElem? (i := 3) rfl)) (fun _ h9 => h9) rfl dX8_store_35 ?_
  refine lv_bipush (v := 14) hx hb dX8_store_38 (by decide) ?_
  refine lv_aload_n hx hb dX8_store_40 rfl (lv_at hl 1 rfl) ?_
  refine va_get (D := (dC, dI)) (ci := 8) (v := .int (g 7)) (C := RX8) (T := TX8) (N := 17) hx hb hts inw_X8_store_X8 hown hK hP 0 rfl rfl 7 (by decide) (hts (.fieldLink RX8 28 "DuelFramesModel" "frames" "I") (List.mem_of_getElem? (i := 4) rfl)) (fun _ h9 => h9) rfl dX8_store_41 ?_
  refine lv_imul hx hb dX8_store_44 ?_
  refine lv_iload_n hx hb dX8_store_45 rfl (lv_at hl 0 rfl) ?_
  refine lv_iadd hx hb dX8_store_46 ?_
  refine lv_aload_n hx hb dX8_store_47 rfl (lv_at hl 1 rfl) ?_
  refine va_get (D := (dC, dI)) (ci := 8) (v := .ref (AM 2)) (C := RX8) (T := TX8) (N := 17) hx hb hts inw_X8_store_X8 hown hK hP 0 rfl rfl 2 (by decide) (hts (.fieldLink RX8 13 "DuelFramesModel" "s" "[I") (List.mem_of_getElem? (i := 2) rfl)) (fun _ h9 => h9) rfl dX8_store_48 ?_
  refine lv_iload_n hx hb dX8_store_51 rfl (lv_at hl 0 rfl) ?_
  refine va_iald hx hb hK hP 2 0 rfl rfl (vin rfl) dX8_store_52 ?_
  refine lv_topi (fun x_63 ex_63 => ?_)
  obtain rfl : x_63 = (sA 4) := ex_63
  refine va_iast hx hb hK hP hD hS 5 0 rfl rfl (td_in hfr (vin rfl)) dX8_store_53 (fun H locs hP1 hD1 hS1 => ?_)
  clear hP hD hS
  have hP : va_P (dC, dI) vwCl [(m0, .inr (8, mdL AM g)), (AM 0, .inl (cY 0, 72, .inl tb)), (AM 2, .inl (cY 0, 22, .inl sA)), (AM 3, .inl (cY 0, 22, .inl (upd (upd (upd (upd (upd (upd (upd (upd (upd (upd (upd (upd (upd (upd (upd (upd (upd (upd (upd (upd (upd (upd rd 0 (sA 0)) 1 (sA 1)) 2 (sA 2)) 3 (sA 3)) 4 (sA 4)) 5 (sA 5)) 6 (sA 6)) 7 (sA 7)) 8 (sA 8)) 9 (sA 9)) 10 (sA 10)) 11 (sA 11)) 12 (sA 12)) 13 (sA 13)) 14 (sA 14)) 15 (sA 15)) 16 (sA 16)) 17 (sA 17)) 18 (sA 18)) 19 (sA 19)) 20 (sA 20)) 21 (sA 21)))), (AM 4, .inl (cY 0, 110, .inl kp)), (AM 5, .inl (cY 0, 8414, .inl (upd (upd (upd (upd (upd (upd (upd (upd (upd td ((14 * (g 7)) + 0).toNatClampNeg (sA 0)) (((14 * (g 7)) + 7) + 0).toNatClampNeg (sA 11)) ((14 * (g 7)) + 1).toNatClampNeg (sA 1)) (((14 * (g 7)) + 7) + 1).toNatClampNeg (sA 12)) ((14 * (g 7)) + 2).toNatClampNeg (sA 2)) (((14 * (g 7)) + 7) + 2).toNatClampNeg (sA 13)) ((14 * (g 7)) + 3).toNatClampNeg (sA 3)) (((14 * (g 7)) + 7) + 3).toNatClampNeg (sA 14)) ((14 * (g 7)) + 4).toNatClampNeg (sA 4)))), (AM 6, .inl (cY 0, 2, .inl wn)), (AM 13, .inl (cY 0, 4, .inl rw)), (AM 14, .inl (cY 0, 4, .inl br))] H := hP1
  have hD : va_D A [(m0, .inr (8, mdL AM g)), (AM 0, .inl (cY 0, 72, .inl tb)), (AM 2, .inl (cY 0, 22, .inl sA)), (AM 3, .inl (cY 0, 22, .inl (upd (upd (upd (upd (upd (upd (upd (upd (upd (upd (upd (upd (upd (upd (upd (upd (upd (upd (upd (upd (upd (upd rd 0 (sA 0)) 1 (sA 1)) 2 (sA 2)) 3 (sA 3)) 4 (sA 4)) 5 (sA 5)) 6 (sA 6)) 7 (sA 7)) 8 (sA 8)) 9 (sA 9)) 10 (sA 10)) 11 (sA 11)) 12 (sA 12)) 13 (sA 13)) 14 (sA 14)) 15 (sA 15)) 16 (sA 16)) 17 (sA 17)) 18 (sA 18)) 19 (sA 19)) 20 (sA 20)) 21 (sA 21)))), (AM 4, .inl (cY 0, 110, .inl kp)), (AM 5, .inl (cY 0, 8414, .inl (upd (upd (upd (upd (upd (upd (upd (upd (upd td ((14 * (g 7)) + 0).toNatClampNeg (sA 0)) (((14 * (g 7)) + 7) + 0).toNatClampNeg (sA 11)) ((14 * (g 7)) + 1).toNatClampNeg (sA 1)) (((14 * (g 7)) + 7) + 1).toNatClampNeg (sA 12)) ((14 * (g 7)) + 2).toNatClampNeg (sA 2)) (((14 * (g 7)) + 7) + 2).toNatClampNeg (sA 13)) ((14 * (g 7)) + 3).toNatClampNeg (sA 3)) (((14 * (g 7)) + 7) + 3).toNatClampNeg (sA 14)) ((14 * (g 7)) + 4).toNatClampNeg (sA 4)))), (AM 6, .inl (cY 0, 2, .inl wn)), (AM 13, .inl (cY 0, 4, .inl rw)), (AM 14, .inl (cY 0, 4, .inl br))] := hD1
  have hS := hS1
  clear hP1 hD1 hS1
  refine lv_aload_n hx hb dX8_store_54 rfl (lv_at hl 1 rfl) ?_
  refine va_get (D := (dC, dI)) (ci := 8) (v := .ref (AM 5)) (C := RX8) (T := TX8) (N := 17) hx hb hts inw_X8_store_X8 hown hK hP 0 rfl rfl 5 (by decide) (hts (.fieldLink RX8 22 "DuelFramesModel" "told" "[I") (List.mem_of_getElem? (i := 3) rfl)) (fun _ h9 => h9) rfl dX8_store_55 ?_
  refine lv_bipush (v := 14) hx hb dX8_store_58 (by decide) ?_
  refine lv_aload_n hx hb dX8_store_60 rfl (lv_at hl 1 rfl) ?_
  refine va_get (D := (dC, dI)) (ci := 8) (v := .int (g 7)) (C := RX8) (T := TX8) (N := 17) hx hb hts inw_X8_store_X8 hown hK hP 0 rfl rfl 7 (by decide) (hts (.fieldLink RX8 28 "DuelFramesModel" "frames" "I") (List.mem_of_getElem? (i := 4) rfl)) (fun _ h9 => h9) rfl dX8_store_61 ?_
  refine lv_imul hx hb dX8_store_64 ?_
  refine lv_bipush (v := 7) hx hb dX8_store_65 (by decide) ?_
  refine lv_iadd hx hb dX8_store_67 ?_
  refine lv_iload_n hx hb dX8_store_68 rfl (lv_at hl 0 rfl) ?_
  refine lv_iadd hx hb dX8_store_69 ?_
  refine lv_aload_n hx hb dX8_store_70 rfl (lv_at hl 1 rfl) ?_
  refine va_get (D := (dC, dI)) (ci := 8) (v := .ref (AM 2)) (C := RX8) (T := TX8) (N := 17) hx hb hts inw_X8_store_X8 hown hK hP 0 rfl rfl 2 (by decide) (hts (.fieldLink RX8 13 "DuelFramesModel" "s" "[I") (List.mem_of_getElem? (i := 2) rfl)) (fun _ h9 => h9) rfl dX8_store_71 ?_
  refine lv_bipush (v := 11) hx hb dX8_store_74 (by decide) ?_
  refine lv_iload_n hx hb dX8_store_76 rfl (lv_at hl 0 rfl) ?_
  refine lv_iadd hx hb dX8_store_77 ?_
  refine lv_topi (fun x_64 ex_64 => ?_)
  obtain rfl : x_64 = 15 := ex_64.trans (by decide)
  refine va_iald hx hb hK hP 2 0 rfl rfl (vin rfl) dX8_store_78 ?_
  refine lv_topi (fun x_65 ex_65 => ?_)
  obtain rfl : x_65 = (sA 15) := ex_65
  refine va_iast hx hb hK hP hD hS 5 0 rfl rfl (td_in2 hfr (vin rfl)) dX8_store_79 (fun H locs hP1 hD1 hS1 => ?_)
  clear hP hD hS
  have hP : va_P (dC, dI) vwCl [(m0, .inr (8, mdL AM g)), (AM 0, .inl (cY 0, 72, .inl tb)), (AM 2, .inl (cY 0, 22, .inl sA)), (AM 3, .inl (cY 0, 22, .inl (upd (upd (upd (upd (upd (upd (upd (upd (upd (upd (upd (upd (upd (upd (upd (upd (upd (upd (upd (upd (upd (upd rd 0 (sA 0)) 1 (sA 1)) 2 (sA 2)) 3 (sA 3)) 4 (sA 4)) 5 (sA 5)) 6 (sA 6)) 7 (sA 7)) 8 (sA 8)) 9 (sA 9)) 10 (sA 10)) 11 (sA 11)) 12 (sA 12)) 13 (sA 13)) 14 (sA 14)) 15 (sA 15)) 16 (sA 16)) 17 (sA 17)) 18 (sA 18)) 19 (sA 19)) 20 (sA 20)) 21 (sA 21)))), (AM 4, .inl (cY 0, 110, .inl kp)), (AM 5, .inl (cY 0, 8414, .inl (upd (upd (upd (upd (upd (upd (upd (upd (upd (upd td ((14 * (g 7)) + 0).toNatClampNeg (sA 0)) (((14 * (g 7)) + 7) + 0).toNatClampNeg (sA 11)) ((14 * (g 7)) + 1).toNatClampNeg (sA 1)) (((14 * (g 7)) + 7) + 1).toNatClampNeg (sA 12)) ((14 * (g 7)) + 2).toNatClampNeg (sA 2)) (((14 * (g 7)) + 7) + 2).toNatClampNeg (sA 13)) ((14 * (g 7)) + 3).toNatClampNeg (sA 3)) (((14 * (g 7)) + 7) + 3).toNatClampNeg (sA 14)) ((14 * (g 7)) + 4).toNatClampNeg (sA 4)) (((14 * (g 7)) + 7) + 4).toNatClampNeg (sA 15)))), (AM 6, .inl (cY 0, 2, .inl wn)), (AM 13, .inl (cY 0, 4, .inl rw)), (AM 14, .inl (cY 0, 4, .inl br))] H := hP1
  have hD : va_D A [(m0, .inr (8, mdL AM g)), (AM 0, .inl (cY 0, 72, .inl tb)), (AM 2, .inl (cY 0, 22, .inl sA)), (AM 3, .inl (cY 0, 22, .inl (upd (upd (upd (upd (upd (upd (upd (upd (upd (upd (upd (upd (upd (upd (upd (upd (upd (upd (upd (upd (upd (upd rd 0 (sA 0)) 1 (sA 1)) 2 (sA 2)) 3 (sA 3)) 4 (sA 4)) 5 (sA 5)) 6 (sA 6)) 7 (sA 7)) 8 (sA 8)) 9 (sA 9)) 10 (sA 10)) 11 (sA 11)) 12 (sA 12)) 13 (sA 13)) 14 (sA 14)) 15 (sA 15)) 16 (sA 16)) 17 (sA 17)) 18 (sA 18)) 19 (sA 19)) 20 (sA 20)) 21 (sA 21)))), (AM 4, .inl (cY 0, 110, .inl kp)), (AM 5, .inl (cY 0, 8414, .inl (upd (upd (upd (upd (upd (upd (upd (upd (upd (upd td ((14 * (g 7)) + 0).toNatClampNeg (sA 0)) (((14 * (g 7)) + 7) + 0).toNatClampNeg (sA 11)) ((14 * (g 7)) + 1).toNatClampNeg (sA 1)) (((14 * (g 7)) + 7) + 1).toNatClampNeg (sA 12)) ((14 * (g 7)) + 2).toNatClampNeg (sA 2)) (((14 * (g 7)) + 7) + 2).toNatClampNeg (sA 13)) ((14 * (g 7)) + 3).toNatClampNeg (sA 3)) (((14 * (g 7)) + 7) + 3).toNatClampNeg (sA 14)) ((14 * (g 7)) + 4).toNatClampNeg (sA 4)) (((14 * (g 7)) + 7) + 4).toNatClampNeg (sA 15)))), (AM 6, .inl (cY 0, 2, .inl wn)), (AM 13, .inl (cY 0, 4, .inl rw)), (AM 14, .inl (cY 0, 4, .inl br))] := hD1
  have hS := hS1
  clear hP1 hD1 hS1
  refine lv_iinc (v := 5) (lv' := [(1, .int 5), (0, .ref m0)]) hx hb dX8_store_80 hl (k := 0) rfl (by first | rfl | decide) (by decide) rfl (fun ls hl => ?_)
  refine lv_goto (tgt := 28) hx hb dX8_store_83 (by decide) ?_
  refine lv_iload_n hx hb dX8_store_28 rfl (lv_at hl 0 rfl) ?_
  refine lv_bipush (v := 7) hx hb dX8_store_29 (by decide) ?_
  refine lv_icmp_ge (tgt := 86) hx hb dX8_store_31 (by decide) (fun c_66 => ?_) (fun c_66 => ?_)
  · exact absurd c_66 (by decide)
  refine lv_aload_n hx hb dX8_store_34 rfl (lv_at hl 1 rfl) ?_
  refine va_get (D := (dC, dI)) (ci := 8) (v := .ref (AM 5)) (C := RX8) (T := TX8) (N := 17) hx hb hts inw_X8_store_X8 hown hK hP 0 rfl rfl 5 (by decide) (hts (.fieldLink RX8 22 "DuelFramesModel" "told" "[I") (List.mem_of_getElem? (i := 3) rfl)) (fun _ h9 => h9) rfl dX8_store_35 ?_
  refine lv_bipush (v := 14) hx hb dX8_store_38 (by decide) ?_
  refine lv_aload_n hx hb dX8_store_40 rfl (lv_at hl 1 rfl) ?_
  refine va_get (D := (dC, dI)) (ci := 8) (v := .int (g 7)) (C := RX8) (T := TX8) (N := 17) hx hb hts inw_X8_store_X8 hown hK hP 0 rfl rfl 7 (by decide) (hts (.fieldLink RX8 28 "DuelFramesModel" "frames" "I") (List.mem_of_getElem? (i := 4) rfl)) (fun _ h9 => h9) rfl dX8_store_41 ?_
  refine lv_imul hx hb dX8_store_44 ?_
  refine lv_iload_n hx hb dX8_store_45 rfl (lv_at hl 0 rfl) ?_
  refine lv_iadd hx hb dX8_store_46 ?_
  refine lv_aload_n hx hb dX8_store_47 rfl (lv_at hl 1 rfl) ?_
  refine va_get (D := (dC, dI)) (ci := 8) (v := .ref (AM 2)) (C := RX8) (T := TX8) (N := 17) hx hb hts inw_X8_store_X8 hown hK hP 0 rfl rfl 2 (by decide) (hts (.fieldLink RX8 13 "DuelFramesModel" "s" "[I") (List.mem_of_getElem? (i := 2) rfl)) (fun _ h9 => h9) rfl dX8_store_48 ?_
  refine lv_iload_n hx hb dX8_store_51 rfl (lv_at hl 0 rfl) ?_
  refine va_iald hx hb hK hP 2 0 rfl rfl (vin rfl) dX8_store_52 ?_
  refine lv_topi (fun x_67 ex_67 => ?_)
  obtain rfl : x_67 = (sA 5) := ex_67
  refine va_iast hx hb hK hP hD hS 5 0 rfl rfl (td_in hfr (vin rfl)) dX8_store_53 (fun H locs hP1 hD1 hS1 => ?_)
  clear hP hD hS
  have hP : va_P (dC, dI) vwCl [(m0, .inr (8, mdL AM g)), (AM 0, .inl (cY 0, 72, .inl tb)), (AM 2, .inl (cY 0, 22, .inl sA)), (AM 3, .inl (cY 0, 22, .inl (upd (upd (upd (upd (upd (upd (upd (upd (upd (upd (upd (upd (upd (upd (upd (upd (upd (upd (upd (upd (upd (upd rd 0 (sA 0)) 1 (sA 1)) 2 (sA 2)) 3 (sA 3)) 4 (sA 4)) 5 (sA 5)) 6 (sA 6)) 7 (sA 7)) 8 (sA 8)) 9 (sA 9)) 10 (sA 10)) 11 (sA 11)) 12 (sA 12)) 13 (sA 13)) 14 (sA 14)) 15 (sA 15)) 16 (sA 16)) 17 (sA 17)) 18 (sA 18)) 19 (sA 19)) 20 (sA 20)) 21 (sA 21)))), (AM 4, .inl (cY 0, 110, .inl kp)), (AM 5, .inl (cY 0, 8414, .inl (upd (upd (upd (upd (upd (upd (upd (upd (upd (upd (upd td ((14 * (g 7)) + 0).toNatClampNeg (sA 0)) (((14 * (g 7)) + 7) + 0).toNatClampNeg (sA 11)) ((14 * (g 7)) + 1).toNatClampNeg (sA 1)) (((14 * (g 7)) + 7) + 1).toNatClampNeg (sA 12)) ((14 * (g 7)) + 2).toNatClampNeg (sA 2)) (((14 * (g 7)) + 7) + 2).toNatClampNeg (sA 13)) ((14 * (g 7)) + 3).toNatClampNeg (sA 3)) (((14 * (g 7)) + 7) + 3).toNatClampNeg (sA 14)) ((14 * (g 7)) + 4).toNatClampNeg (sA 4)) (((14 * (g 7)) + 7) + 4).toNatClampNeg (sA 15)) ((14 * (g 7)) + 5).toNatClampNeg (sA 5)))), (AM 6, .inl (cY 0, 2, .inl wn)), (AM 13, .inl (cY 0, 4, .inl rw)), (AM 14, .inl (cY 0, 4, .inl br))] H := hP1
  have hD : va_D A [(m0, .inr (8, mdL AM g)), (AM 0, .inl (cY 0, 72, .inl tb)), (AM 2, .inl (cY 0, 22, .inl sA)), (AM 3, .inl (cY 0, 22, .inl (upd (upd (upd (upd (upd (upd (upd (upd (upd (upd (upd (upd (upd (upd (upd (upd (upd (upd (upd (upd (upd (upd rd 0 (sA 0)) 1 (sA 1)) 2 (sA 2)) 3 (sA 3)) 4 (sA 4)) 5 (sA 5)) 6 (sA 6)) 7 (sA 7)) 8 (sA 8)) 9 (sA 9)) 10 (sA 10)) 11 (sA 11)) 12 (sA 12)) 13 (sA 13)) 14 (sA 14)) 15 (sA 15)) 16 (sA 16)) 17 (sA 17)) 18 (sA 18)) 19 (sA 19)) 20 (sA 20)) 21 (sA 21)))), (AM 4, .inl (cY 0, 110, .inl kp)), (AM 5, .inl (cY 0, 8414, .inl (upd (upd (upd (upd (upd (upd (upd (upd (upd (upd (upd td ((14 * (g 7)) + 0).toNatClampNeg (sA 0)) (((14 * (g 7)) + 7) + 0).toNatClampNeg (sA 11)) ((14 * (g 7)) + 1).toNatClampNeg (sA 1)) (((14 * (g 7)) + 7) + 1).toNatClampNeg (sA 12)) ((14 * (g 7)) + 2).toNatClampNeg (sA 2)) (((14 * (g 7)) + 7) + 2).toNatClampNeg (sA 13)) ((14 * (g 7)) + 3).toNatClampNeg (sA 3)) (((14 * (g 7)) + 7) + 3).toNatClampNeg (sA 14)) ((14 * (g 7)) + 4).toNatClampNeg (sA 4)) (((14 * (g 7)) + 7) + 4).toNatClampNeg (sA 15)) ((14 * (g 7)) + 5).toNatClampNeg (sA 5)))), (AM 6, .inl (cY 0, 2, .inl wn)), (AM 13, .inl (cY 0, 4, .inl rw)), (AM 14, .inl (cY 0, 4, .inl br))] := hD1
  have hS := hS1
  clear hP1 hD1 hS1
  refine lv_aload_n hx hb dX8_store_54 rfl (lv_at hl 1 rfl) ?_
  refine va_get (D := (dC, dI)) (ci := 8) (v := .ref (AM 5)) (C := RX8) (T := TX8) (N := 17) hx hb hts inw_X8_store_X8 hown hK hP 0 rfl rfl 5 (by decide) (hts (.fieldLink RX8 22 "DuelFramesModel" "told" "[I") (List.mem_of_getElem? (i := 3) rfl)) (fun _ h9 => h9) rfl dX8_store_55 ?_
  refine lv_bipush (v := 14) hx hb dX8_store_58 (by decide) ?_
  refine lv_aload_n hx hb dX8_store_60 rfl (lv_at hl 1 rfl) ?_
  refine va_get (D := (dC, dI)) (ci := 8) (v := .int (g 7)) (C := RX8) (T := TX8) (N := 17) hx hb hts inw_X8_store_X8 hown hK hP 0 rfl rfl 7 (by decide) (hts (.fieldLink RX8 28 "DuelFramesModel" "frames" "I") (List.mem_of_getElem? (i := 4) rfl)) (fun _ h9 => h9) rfl dX8_store_61 ?_
  refine lv_imul hx hb dX8_store_64 ?_
  refine lv_bipush (v := 7) hx hb dX8_store_65 (by decide) ?_
  refine lv_iadd hx hb dX8_store_67 ?_
  refine lv_iload_n hx hb dX8_store_68 rfl (lv_at hl 0 rfl) ?_
  refine lv_iadd hx hb dX8_store_69 ?_
  refine lv_aload_n hx hb dX8_store_70 rfl (lv_at hl 1 rfl) ?_
  refine va_get (D := (dC, dI)) (ci := 8) (v := .ref (AM 2)) (C := RX8) (T := TX8) (N := 17) hx hb hts inw_X8_store_X8 hown hK hP 0 rfl rfl 2 (by decide) (hts (.fieldLink RX8 13 "DuelFramesModel" "s" "[I") (List.mem_of_getElem? (i := 2) rfl)) (fun _ h9 => h9) rfl dX8_store_71 ?_
  refine lv_bipush (v := 11) hx hb dX8_store_74 (by decide) ?_
  refine lv_iload_n hx hb dX8_store_76 rfl (lv_at hl 0 rfl) ?_
  refine lv_iadd hx hb dX8_store_77 ?_
  refine lv_topi (fun x_68 ex_68 => ?_)
  obtain rfl : x_68 = 16 := ex_68.trans (by decide)
  refine va_iald hx hb hK hP 2 0 rfl rfl (vin rfl) dX8_store_78 ?_
  refine lv_topi (fun x_69 ex_69 => ?_)
  obtain rfl : x_69 = (sA 16) := ex_69
  refine va_iast hx hb hK hP hD hS 5 0 rfl rfl (td_in2 hfr (vin rfl)) dX8_store_79 (fun H locs hP1 hD1 hS1 => ?_)
  clear hP hD hS
  have hP : va_P (dC, dI) vwCl [(m0, .inr (8, mdL AM g)), (AM 0, .inl (cY 0, 72, .inl tb)), (AM 2, .inl (cY 0, 22, .inl sA)), (AM 3, .inl (cY 0, 22, .inl (upd (upd (upd (upd (upd (upd (upd (upd (upd (upd (upd (upd (upd (upd (upd (upd (upd (upd (upd (upd (upd (upd rd 0 (sA 0)) 1 (sA 1)) 2 (sA 2)) 3 (sA 3)) 4 (sA 4)) 5 (sA 5)) 6 (sA 6)) 7 (sA 7)) 8 (sA 8)) 9 (sA 9)) 10 (sA 10)) 11 (sA 11)) 12 (sA 12)) 13 (sA 13)) 14 (sA 14)) 15 (sA 15)) 16 (sA 16)) 17 (sA 17)) 18 (sA 18)) 19 (sA 19)) 20 (sA 20)) 21 (sA 21)))), (AM 4, .inl (cY 0, 110, .inl kp)), (AM 5, .inl (cY 0, 8414, .inl (upd (upd (upd (upd (upd (upd (upd (upd (upd (upd (upd (upd td ((14 * (g 7)) + 0).toNatClampNeg (sA 0)) (((14 * (g 7)) + 7) + 0).toNatClampNeg (sA 11)) ((14 * (g 7)) + 1).toNatClampNeg (sA 1)) (((14 * (g 7)) + 7) + 1).toNatClampNeg (sA 12)) ((14 * (g 7)) + 2).toNatClampNeg (sA 2)) (((14 * (g 7)) + 7) + 2).toNatClampNeg (sA 13)) ((14 * (g 7)) + 3).toNatClampNeg (sA 3)) (((14 * (g 7)) + 7) + 3).toNatClampNeg (sA 14)) ((14 * (g 7)) + 4).toNatClampNeg (sA 4)) (((14 * (g 7)) + 7) + 4).toNatClampNeg (sA 15)) ((14 * (g 7)) + 5).toNatClampNeg (sA 5)) (((14 * (g 7)) + 7) + 5).toNatClampNeg (sA 16)))), (AM 6, .inl (cY 0, 2, .inl wn)), (AM 13, .inl (cY 0, 4, .inl rw)), (AM 14, .inl (cY 0, 4, .inl br))] H := hP1
  have hD : va_D A [(m0, .inr (8, mdL AM g)), (AM 0, .inl (cY 0, 72, .inl tb)), (AM 2, .inl (cY 0, 22, .inl sA)), (AM 3, .inl (cY 0, 22, .inl (upd (upd (upd (upd (upd (upd (upd (upd (upd (upd (upd (upd (upd (upd (upd (upd (upd (upd (upd (upd (upd (upd rd 0 (sA 0)) 1 (sA 1)) 2 (sA 2)) 3 (sA 3)) 4 (sA 4)) 5 (sA 5)) 6 (sA 6)) 7 (sA 7)) 8 (sA 8)) 9 (sA 9)) 10 (sA 10)) 11 (sA 11)) 12 (sA 12)) 13 (sA 13)) 14 (sA 14)) 15 (sA 15)) 16 (sA 16)) 17 (sA 17)) 18 (sA 18)) 19 (sA 19)) 20 (sA 20)) 21 (sA 21)))), (AM 4, .inl (cY 0, 110, .inl kp)), (AM 5, .inl (cY 0, 8414, .inl (upd (upd (upd (upd (upd (upd (upd (upd (upd (upd (upd (upd td ((14 * (g 7)) + 0).toNatClampNeg (sA 0)) (((14 * (g 7)) + 7) + 0).toNatClampNeg (sA 11)) ((14 * (g 7)) + 1).toNatClampNeg (sA 1)) (((14 * (g 7)) + 7) + 1).toNatClampNeg (sA 12)) ((14 * (g 7)) + 2).toNatClampNeg (sA 2)) (((14 * (g 7)) + 7) + 2).toNatClampNeg (sA 13)) ((14 * (g 7)) + 3).toNatClampNeg (sA 3)) (((14 * (g 7)) + 7) + 3).toNatClampNeg (sA 14)) ((14 * (g 7)) + 4).toNatClampNeg (sA 4)) (((14 * (g 7)) + 7) + 4).toNatClampNeg (sA 15)) ((14 * (g 7)) + 5).toNatClampNeg (sA 5)) (((14 * (g 7)) + 7) + 5).toNatClampNeg (sA 16)))), (AM 6, .inl (cY 0, 2, .inl wn)), (AM 13, .inl (cY 0, 4, .inl rw)), (AM 14, .inl (cY 0, 4, .inl br))] := hD1
  have hS := hS1
  clear hP1 hD1 hS1
  refine lv_iinc (v := 6) (lv' := [(1, .int 6), (0, .ref m0)]) hx hb dX8_store_80 hl (k := 0) rfl (by first | rfl | decide) (by decide) rfl (fun ls hl => ?_)
  refine lv_goto (tgt := 28) hx hb dX8_store_83 (by decide) ?_
  refine lv_iload_n hx hb dX8_store_28 rfl (lv_at hl 0 rfl) ?_
  refine lv_bipush (v := 7) hx hb dX8_store_29 (by decide) ?_
  refine lv_icmp_ge (tgt := 86) hx hb dX8_store_31 (by decide) (fun c_70 => ?_) (fun c_70 => ?_)
  · exact absurd c_70 (by decide)
  refine lv_aload_n hx hb dX8_store_34 rfl (lv_at hl 1 rfl) ?_
  refine va_get (D := (dC, dI)) (ci := 8) (v := .ref (AM 5)) (C := RX8) (T := TX8) (N := 17) hx hb hts inw_X8_store_X8 hown hK hP 0 rfl rfl 5 (by decide) (hts (.fieldLink RX8 22 "DuelFramesModel" "told" "[I") (List.mem_of_getElem? (i := 3) rfl)) (fun _ h9 => h9) rfl dX8_store_35 ?_
  refine lv_bipush (v := 14) hx hb dX8_store_38 (by decide) ?_
  refine lv_aload_n hx hb dX8_store_40 rfl (lv_at hl 1 rfl) ?_
  refine va_get (D := (dC, dI)) (ci := 8) (v := .int (g 7)) (C := RX8) (T := TX8) (N := 17) hx hb hts inw_X8_store_X8 hown hK hP 0 rfl rfl 7 (by decide) (hts (.fieldLink RX8 28 "DuelFramesModel" "frames" "I") (List.mem_of_getElem? (i := 4) rfl)) (fun _ h9 => h9) rfl dX8_store_41 ?_
  refine lv_imul hx hb dX8_store_44 ?_
  refine lv_iload_n hx hb dX8_store_45 rfl (lv_at hl 0 rfl) ?_
  refine lv_iadd hx hb dX8_store_46 ?_
  refine lv_aload_n hx hb dX8_store_47 rfl (lv_at hl 1 rfl) ?_
  refine va_get (D := (dC, dI)) (ci := 8) (v := .ref (AM 2)) (C := RX8) (T := TX8) (N := 17) hx hb hts inw_X8_store_X8 hown hK hP 0 rfl rfl 2 (by decide) (hts (.fieldLink RX8 13 "DuelFramesModel" "s" "[I") (List.mem_of_getElem? (i := 2) rfl)) (fun _ h9 => h9) rfl dX8_store_48 ?_
  refine lv_iload_n hx hb dX8_store_51 rfl (lv_at hl 0 rfl) ?_
  refine va_iald hx hb hK hP 2 0 rfl rfl (vin rfl) dX8_store_52 ?_
  refine lv_topi (fun x_71 ex_71 => ?_)
  obtain rfl : x_71 = (sA 6) := ex_71
  refine va_iast hx hb hK hP hD hS 5 0 rfl rfl (td_in hfr (vin rfl)) dX8_store_53 (fun H locs hP1 hD1 hS1 => ?_)
  clear hP hD hS
  have hP : va_P (dC, dI) vwCl [(m0, .inr (8, mdL AM g)), (AM 0, .inl (cY 0, 72, .inl tb)), (AM 2, .inl (cY 0, 22, .inl sA)), (AM 3, .inl (cY 0, 22, .inl (upd (upd (upd (upd (upd (upd (upd (upd (upd (upd (upd (upd (upd (upd (upd (upd (upd (upd (upd (upd (upd (upd rd 0 (sA 0)) 1 (sA 1)) 2 (sA 2)) 3 (sA 3)) 4 (sA 4)) 5 (sA 5)) 6 (sA 6)) 7 (sA 7)) 8 (sA 8)) 9 (sA 9)) 10 (sA 10)) 11 (sA 11)) 12 (sA 12)) 13 (sA 13)) 14 (sA 14)) 15 (sA 15)) 16 (sA 16)) 17 (sA 17)) 18 (sA 18)) 19 (sA 19)) 20 (sA 20)) 21 (sA 21)))), (AM 4, .inl (cY 0, 110, .inl kp)), (AM 5, .inl (cY 0, 8414, .inl (upd (upd (upd (upd (upd (upd (upd (upd (upd (upd (upd (upd (upd td ((14 * (g 7)) + 0).toNatClampNeg (sA 0)) (((14 * (g 7)) + 7) + 0).toNatClampNeg (sA 11)) ((14 * (g 7)) + 1).toNatClampNeg (sA 1)) (((14 * (g 7)) + 7) + 1).toNatClampNeg (sA 12)) ((14 * (g 7)) + 2).toNatClampNeg (sA 2)) (((14 * (g 7)) + 7) + 2).toNatClampNeg (sA 13)) ((14 * (g 7)) + 3).toNatClampNeg (sA 3)) (((14 * (g 7)) + 7) + 3).toNatClampNeg (sA 14)) ((14 * (g 7)) + 4).toNatClampNeg (sA 4)) (((14 * (g 7)) + 7) + 4).toNatClampNeg (sA 15)) ((14 * (g 7)) + 5).toNatClampNeg (sA 5)) (((14 * (g 7)) + 7) + 5).toNatClampNeg (sA 16)) ((14 * (g 7)) + 6).toNatClampNeg (sA 6)))), (AM 6, .inl (cY 0, 2, .inl wn)), (AM 13, .inl (cY 0, 4, .inl rw)), (AM 14, .inl (cY 0, 4, .inl br))] H := hP1
  have hD : va_D A [(m0, .inr (8, mdL AM g)), (AM 0, .inl (cY 0, 72, .inl tb)), (AM 2, .inl (cY 0, 22, .inl sA)), (AM 3, .inl (cY 0, 22, .inl (upd (upd (upd (upd (upd (upd (upd (upd (upd (upd (upd (upd (upd (upd (upd (upd (upd (upd (upd (upd (upd (upd rd 0 (sA 0)) 1 (sA 1)) 2 (sA 2)) 3 (sA 3)) 4 (sA 4)) 5 (sA 5)) 6 (sA 6)) 7 (sA 7)) 8 (sA 8)) 9 (sA 9)) 10 (sA 10)) 11 (sA 11)) 12 (sA 12)) 13 (sA 13)) 14 (sA 14)) 15 (sA 15)) 16 (sA 16)) 17 (sA 17)) 18 (sA 18)) 19 (sA 19)) 20 (sA 20)) 21 (sA 21)))), (AM 4, .inl (cY 0, 110, .inl kp)), (AM 5, .inl (cY 0, 8414, .inl (upd (upd (upd (upd (upd (upd (upd (upd (upd (upd (upd (upd (upd td ((14 * (g 7)) + 0).toNatClampNeg (sA 0)) (((14 * (g 7)) + 7) + 0).toNatClampNeg (sA 11)) ((14 * (g 7)) + 1).toNatClampNeg (sA 1)) (((14 * (g 7)) + 7) + 1).toNatClampNeg (sA 12)) ((14 * (g 7)) + 2).toNatClampNeg (sA 2)) (((14 * (g 7)) + 7) + 2).toNatClampNeg (sA 13)) ((14 * (g 7)) + 3).toNatClampNeg (sA 3)) (((14 * (g 7)) + 7) + 3).toNatClampNeg (sA 14)) ((14 * (g 7)) + 4).toNatClampNeg (sA 4)) (((14 * (g 7)) + 7) + 4).toNatClampNeg (sA 15)) ((14 * (g 7)) + 5).toNatClampNeg (sA 5)) (((14 * (g 7)) + 7) + 5).toNatClampNeg (sA 16)) ((14 * (g 7)) + 6).toNatClampNeg (sA 6)))), (AM 6, .inl (cY 0, 2, .inl wn)), (AM 13, .inl (cY 0, 4, .inl rw)), (AM 14, .inl (cY 0, 4, .inl br))] := hD1
  have hS := hS1
  clear hP1 hD1 hS1
  refine lv_aload_n hx hb dX8_store_54 rfl (lv_at hl 1 rfl) ?_
  refine va_get (D := (dC, dI)) (ci := 8) (v := .ref (AM 5)) (C := RX8) (T := TX8) (N := 17) hx hb hts inw_X8_store_X8 hown hK hP 0 rfl rfl 5 (by decide) (hts (.fieldLink RX8 22 "DuelFramesModel" "told" "[I") (List.mem_of_getElem? (i := 3) rfl)) (fun _ h9 => h9) rfl dX8_store_55 ?_
  refine lv_bipush (v := 14) hx hb dX8_store_58 (by decide) ?_
  refine lv_aload_n hx hb dX8_store_60 rfl (lv_at hl 1 rfl) ?_
  refine va_get (D := (dC, dI)) (ci := 8) (v := .int (g 7)) (C := RX8) (T := TX8) (N := 17) hx hb hts inw_X8_store_X8 hown hK hP 0 rfl rfl 7 (by decide) (hts (.fieldLink RX8 28 "DuelFramesModel" "frames" "I") (List.mem_of_getElem? (i := 4) rfl)) (fun _ h9 => h9) rfl dX8_store_61 ?_
  refine lv_imul hx hb dX8_store_64 ?_
  refine lv_bipush (v := 7) hx hb dX8_store_65 (by decide) ?_
  refine lv_iadd hx hb dX8_store_67 ?_
  refine lv_iload_n hx hb dX8_store_68 rfl (lv_at hl 0 rfl) ?_
  refine lv_iadd hx hb dX8_store_69 ?_
  refine lv_aload_n hx hb dX8_store_70 rfl (lv_at hl 1 rfl) ?_
  refine va_get (D := (dC, dI)) (ci := 8) (v := .ref (AM 2)) (C := RX8) (T := TX8) (N := 17) hx hb hts inw_X8_store_X8 hown hK hP 0 rfl rfl 2 (by decide) (hts (.fieldLink RX8 13 "DuelFramesModel" "s" "[I") (List.mem_of_getElem? (i := 2) rfl)) (fun _ h9 => h9) rfl dX8_store_71 ?_
  refine lv_bipush (v := 11) hx hb dX8_store_74 (by decide) ?_
  refine lv_iload_n hx hb dX8_store_76 rfl (lv_at hl 0 rfl) ?_
  refine lv_iadd hx hb dX8_store_77 ?_
  refine lv_topi (fun x_72 ex_72 => ?_)
  obtain rfl : x_72 = 17 := ex_72.trans (by decide)
  refine va_iald hx hb hK hP 2 0 rfl rfl (vin rfl) dX8_store_78 ?_
  refine lv_topi (fun x_73 ex_73 => ?_)
  obtain rfl : x_73 = (sA 17) := ex_73
  refine va_iast hx hb hK hP hD hS 5 0 rfl rfl (td_in2 hfr (vin rfl)) dX8_store_79 (fun H locs hP1 hD1 hS1 => ?_)
  clear hP hD hS
  have hP : va_P (dC, dI) vwCl [(m0, .inr (8, mdL AM g)), (AM 0, .inl (cY 0, 72, .inl tb)), (AM 2, .inl (cY 0, 22, .inl sA)), (AM 3, .inl (cY 0, 22, .inl (upd (upd (upd (upd (upd (upd (upd (upd (upd (upd (upd (upd (upd (upd (upd (upd (upd (upd (upd (upd (upd (upd rd 0 (sA 0)) 1 (sA 1)) 2 (sA 2)) 3 (sA 3)) 4 (sA 4)) 5 (sA 5)) 6 (sA 6)) 7 (sA 7)) 8 (sA 8)) 9 (sA 9)) 10 (sA 10)) 11 (sA 11)) 12 (sA 12)) 13 (sA 13)) 14 (sA 14)) 15 (sA 15)) 16 (sA 16)) 17 (sA 17)) 18 (sA 18)) 19 (sA 19)) 20 (sA 20)) 21 (sA 21)))), (AM 4, .inl (cY 0, 110, .inl kp)), (AM 5, .inl (cY 0, 8414, .inl (upd (upd (upd (upd (upd (upd (upd (upd (upd (upd (upd (upd (upd (upd td ((14 * (g 7)) + 0).toNatClampNeg (sA 0)) (((14 * (g 7)) + 7) + 0).toNatClampNeg (sA 11)) ((14 * (g 7)) + 1).toNatClampNeg (sA 1)) (((14 * (g 7)) + 7) + 1).toNatClampNeg (sA 12)) ((14 * (g 7)) + 2).toNatClampNeg (sA 2)) (((14 * (g 7)) + 7) + 2).toNatClampNeg (sA 13)) ((14 * (g 7)) + 3).toNatClampNeg (sA 3)) (((14 * (g 7)) + 7) + 3).toNatClampNeg (sA 14)) ((14 * (g 7)) + 4).toNatClampNeg (sA 4)) (((14 * (g 7)) + 7) + 4).toNatClampNeg (sA 15)) ((14 * (g 7)) + 5).toNatClampNeg (sA 5)) (((14 * (g 7)) + 7) + 5).toNatClampNeg (sA 16)) ((14 * (g 7)) + 6).toNatClampNeg (sA 6)) (((14 * (g 7)) + 7) + 6).toNatClampNeg (sA 17)))), (AM 6, .inl (cY 0, 2, .inl wn)), (AM 13, .inl (cY 0, 4, .inl rw)), (AM 14, .inl (cY 0, 4, .inl br))] H := hP1
  have hD : va_D A [(m0, .inr (8, mdL AM g)), (AM 0, .inl (cY 0, 72, .inl tb)), (AM 2, .inl (cY 0, 22, .inl sA)), (AM 3, .inl (cY 0, 22, .inl (upd (upd (upd (upd (upd (upd (upd (upd (upd (upd (upd (upd (upd (upd (upd (upd (upd (upd (upd (upd (upd (upd rd 0 (sA 0)) 1 (sA 1)) 2 (sA 2)) 3 (sA 3)) 4 (sA 4)) 5 (sA 5)) 6 (sA 6)) 7 (sA 7)) 8 (sA 8)) 9 (sA 9)) 10 (sA 10)) 11 (sA 11)) 12 (sA 12)) 13 (sA 13)) 14 (sA 14)) 15 (sA 15)) 16 (sA 16)) 17 (sA 17)) 18 (sA 18)) 19 (sA 19)) 20 (sA 20)) 21 (sA 21)))), (AM 4, .inl (cY 0, 110, .inl kp)), (AM 5, .inl (cY 0, 8414, .inl (upd (upd (upd (upd (upd (upd (upd (upd (upd (upd (upd (upd (upd (upd td ((14 * (g 7)) + 0).toNatClampNeg (sA 0)) (((14 * (g 7)) + 7) + 0).toNatClampNeg (sA 11)) ((14 * (g 7)) + 1).toNatClampNeg (sA 1)) (((14 * (g 7)) + 7) + 1).toNatClampNeg (sA 12)) ((14 * (g 7)) + 2).toNatClampNeg (sA 2)) (((14 * (g 7)) + 7) + 2).toNatClampNeg (sA 13)) ((14 * (g 7)) + 3).toNatClampNeg (sA 3)) (((14 * (g 7)) + 7) + 3).toNatClampNeg (sA 14)) ((14 * (g 7)) + 4).toNatClampNeg (sA 4)) (((14 * (g 7)) + 7) + 4).toNatClampNeg (sA 15)) ((14 * (g 7)) + 5).toNatClampNeg (sA 5)) (((14 * (g 7)) + 7) + 5).toNatClampNeg (sA 16)) ((14 * (g 7)) + 6).toNatClampNeg (sA 6)) (((14 * (g 7)) + 7) + 6).toNatClampNeg (sA 17)))), (AM 6, .inl (cY 0, 2, .inl wn)), (AM 13, .inl (cY 0, 4, .inl rw)), (AM 14, .inl (cY 0, 4, .inl br))] := hD1
  have hS := hS1
  clear hP1 hD1 hS1
  refine lv_iinc (v := 7) (lv' := [(1, .int 7), (0, .ref m0)]) hx hb dX8_store_80 hl (k := 0) rfl (by first | rfl | decide) (by decide) rfl (fun ls hl => ?_)
  refine lv_goto (tgt := 28) hx hb dX8_store_83 (by decide) ?_
  refine lv_iload_n hx hb dX8_store_28 rfl (lv_at hl 0 rfl) ?_
  refine lv_bipush (v := 7) hx hb dX8_store_29 (by decide) ?_
  refine lv_icmp_ge (tgt := 86) hx hb dX8_store_31 (by decide) (fun c_74 => ?_) (fun c_74 => ?_)
  rotate_left
  · exact absurd (by decide) c_74
  have eo_75 : (X8_store_w3 sA rd) = (upd (upd (upd (upd (upd (upd (upd (upd (upd (upd (upd (upd (upd (upd (upd (upd (upd (upd (upd (upd (upd (upd rd 0 (sA 0)) 1 (sA 1)) 2 (sA 2)) 3 (sA 3)) 4 (sA 4)) 5 (sA 5)) 6 (sA 6)) 7 (sA 7)) 8 (sA 8)) 9 (sA 9)) 10 (sA 10)) 11 (sA 11)) 12 (sA 12)) 13 (sA 13)) 14 (sA 14)) 15 (sA 15)) 16 (sA 16)) 17 (sA 17)) 18 (sA 18)) 19 (sA 19)) 20 (sA 20)) 21 (sA 21)) := by rw [X8_store_w3]
  have eo_76 : (X8_store_w5 g sA td) = (upd (upd (upd (upd (upd (upd (upd (upd (upd (upd (upd (upd (upd (upd td ((14 * (g 7)) + 0).toNatClampNeg (sA 0)) (((14 * (g 7)) + 7) + 0).toNatClampNeg (sA 11)) ((14 * (g 7)) + 1).toNatClampNeg (sA 1)) (((14 * (g 7)) + 7) + 1).toNatClampNeg (sA 12)) ((14 * (g 7)) + 2).toNatClampNeg (sA 2)) (((14 * (g 7)) + 7) + 2).toNatClampNeg (sA 13)) ((14 * (g 7)) + 3).toNatClampNeg (sA 3)) (((14 * (g 7)) + 7) + 3).toNatClampNeg (sA 14)) ((14 * (g 7)) + 4).toNatClampNeg (sA 4)) (((14 * (g 7)) + 7) + 4).toNatClampNeg (sA 15)) ((14 * (g 7)) + 5).toNatClampNeg (sA 5)) (((14 * (g 7)) + 7) + 5).toNatClampNeg (sA 16)) ((14 * (g 7)) + 6).toNatClampNeg (sA 6)) (((14 * (g 7)) + 7) + 6).toNatClampNeg (sA 17)) := by rw [X8_store_w5]
  have hP9 : va_P (dC, dI) vwCl [(m0, .inr (8, mdL AM g)), (AM 0, .inl (cY 0, 72, .inl tb)), (AM 2, .inl (cY 0, 22, .inl sA)), (AM 3, .inl (cY 0, 22, .inl (X8_store_w3 sA rd))), (AM 4, .inl (cY 0, 110, .inl kp)), (AM 5, .inl (cY 0, 8414, .inl (X8_store_w5 g sA td))), (AM 6, .inl (cY 0, 2, .inl wn)), (AM 13, .inl (cY 0, 4, .inl rw)), (AM 14, .inl (cY 0, 4, .inl br))] H := by simp only [eo_75, eo_76]; exact hP
  have hD9 : va_D A [(m0, .inr (8, mdL AM g)), (AM 0, .inl (cY 0, 72, .inl tb)), (AM 2, .inl (cY 0, 22, .inl sA)), (AM 3, .inl (cY 0, 22, .inl (X8_store_w3 sA rd))), (AM 4, .inl (cY 0, 110, .inl kp)), (AM 5, .inl (cY 0, 8414, .inl (X8_store_w5 g sA td))), (AM 6, .inl (cY 0, 2, .inl wn)), (AM 13, .inl (cY 0, 4, .inl rw)), (AM 14, .inl (cY 0, 4, .inl br))] := by simp only [eo_75, eo_76]; exact hD
  exact W.vret hx hb hr (fun t ht hW => ⟨⟨(), rfl, trivial, wPost_of hP9 hD9 ht⟩, hS.F ht⟩) hS.2.2 dX8_store_86
theorem inw_X8_keepState_X8 : ∀ w ∈ u_ws RX8 TX8 17, w ∈ wsX8_keepState := fun _ h => List.mem_cons_of_mem _ (List.mem_append_right _ h)
def X8_keepState_w4 (sA : Nat → Int32) (kp : Nat → Int32) (depth : Int32) : Nat → Int32 := (upd (upd (upd (upd (upd (upd (upd (upd (upd (upd (upd (upd (upd (upd (upd (upd (upd (upd (upd (upd (upd (upd kp ((22 * depth) + 0).toNatClampNeg (sA 0)) ((22 * depth) + 1).toNatClampNeg (sA 1)) ((22 * depth) + 2).toNatClampNeg (sA 2)) ((22 * depth) + 3).toNatClampNeg (sA 3)) ((22 * depth) + 4).toNatClampNeg (sA 4)) ((22 * depth) + 5).toNatClampNeg (sA 5)) ((22 * depth) + 6).toNatClampNeg (sA 6)) ((22 * depth) + 7).toNatClampNeg (sA 7)) ((22 * depth) + 8).toNatClampNeg (sA 8)) ((22 * depth) + 9).toNatClampNeg (sA 9)) ((22 * depth) + 10).toNatClampNeg (sA 10)) ((22 * depth) + 11).toNatClampNeg (sA 11)) ((22 * depth) + 12).toNatClampNeg (sA 12)) ((22 * depth) + 13).toNatClampNeg (sA 13)) ((22 * depth) + 14).toNatClampNeg (sA 14)) ((22 * depth) + 15).toNatClampNeg (sA 15)) ((22 * depth) + 16).toNatClampNeg (sA 16)) ((22 * depth) + 17).toNatClampNeg (sA 17)) ((22 * depth) + 18).toNatClampNeg (sA 18)) ((22 * depth) + 19).toNatClampNeg (sA 19)) ((22 * depth) + 20).toNatClampNeg (sA 20)) ((22 * depth) + 21).toNatClampNeg (sA 21))
set_option maxHeartbeats 4000000 in
set_option maxRecDepth 100000 in
theorem c_X8_keepState (l : Launch) (dC : Nat → ClassId) (dI : Nat → Nat → Nat) (cY : Nat → ClassId) (m0 : Nat) (AM : Nat → Nat) (g : Nat → Int32) (tb : Nat → Int32) (sA : Nat → Int32) (rd : Nat → Int32) (kp : Nat → Int32) (td : Nat → Int32) (wn : Nat → Int32) (rw : Nat → Int32) (br : Nat → Int32) (depth : Int32) (hd5 : vp_in depth 5) (sz : Nat) : Met l yX8_keepState wsX8_keepState ({ frames := 0, cells := 0, slots := 0, locals := 0 } : Room) (va_Pc [.ref m0, .int depth] (wPre (dC, dI) (tyL cY) [(m0, .inr (8, mdL AM g)), (AM 0, .inl (cY 0, 72, .inl tb)), (AM 2, .inl (cY 0, 22, .inl sA)), (AM 3, .inl (cY 0, 22, .inl rd)), (AM 4, .inl (cY 0, 110, .inl kp)), (AM 5, .inl (cY 0, 8414, .inl td)), (AM 6, .inl (cY 0, 2, .inl wn)), (AM 13, .inl (cY 0, 4, .inl rw)), (AM 14, .inl (cY 0, 4, .inl br))] sz)) (va_Qv (fun _ : Unit => True) (wPost (dC, dI) [(m0, .inr (8, mdL AM g)), (AM 0, .inl (cY 0, 72, .inl tb)), (AM 2, .inl (cY 0, 22, .inl sA)), (AM 3, .inl (cY 0, 22, .inl rd)), (AM 4, .inl (cY 0, 110, .inl (X8_keepState_w4 sA kp depth))), (AM 5, .inl (cY 0, 8414, .inl td)), (AM 6, .inl (cY 0, 2, .inl wn)), (AM 13, .inl (cY 0, 4, .inl rw)), (AM 14, .inl (cY 0, 4, .inl br))] (va_A [(m0, .inr (8, mdL AM g)), (AM 0, .inl (cY 0, 72, .inl tb)), (AM 2, .inl (cY 0, 22, .inl sA)), (AM 3, .inl (cY 0, 22, .inl rd)), (AM 4, .inl (cY 0, 110, .inl kp)), (AM 5, .inl (cY 0, 8414, .inl td)), (AM 6, .inl (cY 0, 2, .inl wn)), (AM 13, .inl (cY 0, 4, .inl rw)), (AM 14, .inl (cY 0, 4, .inl br))] sz)) (va_A [(m0, .inr (8, mdL AM g)), (AM 0, .inl (cY 0, 72, .inl tb)), (AM 2, .inl (cY 0, 22, .inl sA)), (AM 3, .inl (cY 0, 22, .inl rd)), (AM 4, .inl (cY 0, 110, .inl kp)), (AM 5, .inl (cY 0, 8414, .inl td)), (AM 6, .inl (cY 0, 2, .inl wn)), (AM 13, .inl (cY 0, 4, .inl rw)), (AM 14, .inl (cY 0, 4, .inl br))] sz)) 0 0 (va_A [(m0, .inr (8, mdL AM g)), (AM 0, .inl (cY 0, 72, .inl tb)), (AM 2, .inl (cY 0, 22, .inl sA)), (AM 3, .inl (cY 0, 22, .inl rd)), (AM 4, .inl (cY 0, 110, .inl kp)), (AM 5, .inl (cY 0, 8414, .inl td)), (AM 6, .inl (cY 0, 2, .inl wn)), (AM 13, .inl (cY 0, 4, .inl rw)), (AM 14, .inl (cY 0, 4, .inl br))] sz) := by
  refine Met.ofW (cc := cX8_keepState) (maxL := 3) (ret := none) (by decide) rfl ?_
  intro p e s m args below meth c s₁ B hml hv
  obtain ⟨rfl, hsz, hP, hK, hN, hD0⟩ := hv
  have hx := B.exec
  have hb := B.bytes
  have hr := B.returns
  have hts := atoms_spec (ws := wsX8_keepState) B.pre
  have hown : s.vm.findClass RX8 = some m.cls := findClass_of_methodNamed B.named
  have hlocks := B.notSynchronized
  subst hsz
  have hD := hD0.self (sz := s.heap.size)
  generalize hAe : va_A [(m0, .inr (8, mdL AM g)), (AM 0, .inl (cY 0, 72, .inl tb)), (AM 2, .inl (cY 0, 22, .inl sA)), (AM 3, .inl (cY 0, 22, .inl rd)), (AM 4, .inl (cY 0, 110, .inl kp)), (AM 5, .inl (cY 0, 8414, .inl td)), (AM 6, .inl (cY 0, 2, .inl wn)), (AM 13, .inl (cY 0, 4, .inl rw)), (AM 14, .inl (cY 0, 4, .inl br))] s.heap.size = A at hD ⊢
  have hA : ∀ q : Nat, s.heap.size ≤ q → A q := fun q h => by rw [← hAe]; exact Or.inr h
  have hS : va_S A s.heap s.heap [] := va_S.rf
  have hP : va_P (dC, dI) vwCl [(m0, .inr (8, mdL AM g)), (AM 0, .inl (cY 0, 72, .inl tb)), (AM 2, .inl (cY 0, 22, .inl sA)), (AM 3, .inl (cY 0, 22, .inl rd)), (AM 4, .inl (cY 0, 110, .inl kp)), (AM 5, .inl (cY 0, 8414, .inl td)), (AM 6, .inl (cY 0, 2, .inl wn)), (AM 13, .inl (cY 0, 4, .inl rw)), (AM 14, .inl (cY 0, 4, .inl br))] s.heap := hP
  have hl := lv_entry ([.ref m0, .int depth]) (n := 3) (Nat.le_of_ble_eq_true rfl)
  rw [lg_entry_eq]
  generalize (lg_sl ([.ref m0, .int depth]) ++ List.replicate (3 - (lg_sl ([.ref m0, .int depth])).length) Slot.unset).toArray = ls at hl ⊢
  have hl : lv_has ls 3 [(0, .ref m0), (1, .int depth)] := hl
  refine lv_iconst (v := 0) hx hb dX8_keepState_0 (by decide) ?_
  refine lv_istore_n (lv' := [(2, .int 0), (0, .ref m0), (1, .int depth)]) hx hb dX8_keepState_1 rfl hl (by decide) rfl (fun ls hl => ?_)
  refine lv_iload_n hx hb dX8_keepState_2 rfl (lv_at hl 0 rfl) ?_
  refine lv_bipush (v := 22) hx hb dX8_keepState_3 (by decide) ?_
  refine lv_icmp_ge (tgt := 31) hx hb dX8_keepState_5 (by decide) (fun c_1 => ?_) (fun c_1 => ?_)
  · exact absurd c_1 (by decide)
  refine lv_aload_n hx hb dX8_keepState_8 rfl (lv_at hl 1 rfl) ?_
  refine va_get (D := (dC, dI)) (ci := 8) (v := .ref (AM 4)) (C := RX8) (T := TX8) (N := 17) hx hb hts inw_X8_keepState_X8 hown hK hP 0 rfl rfl 4 (by decide) (hts (.fieldLink RX8 19 "DuelFramesModel" "kept" "[I") (List.mem_of_getElem? (i := 1) rfl)) (fun _ h9 => h9) rfl dX8_keepState_9 ?_
  refine lv_bipush (v := 22) hx hb dX8_keepState_12 (by decide) ?_
  refine lv_iload_n hx hb dX8_keepState_14 rfl (lv_at hl 2 rfl) ?_
  refine lv_imul hx hb dX8_keepState_15 ?_
  refine lv_iload_n hx hb dX8_keepState_16 rfl (lv_at hl 0 rfl) ?_
  refine lv_iadd hx hb dX8_keepState_17 ?_
  refine lv_aload_n hx hb dX8_keepState_18 rfl (lv_at hl 1 rfl) ?_
  refine va_get (D := (dC, dI)) (ci := 8) (v := .ref (AM 2)) (C := RX8) (T := TX8) (N := 17) hx hb hts inw_X8_keepState_X8 hown hK hP 0 rfl rfl 2 (by decide) (hts (.fieldLink RX8 13 "DuelFramesModel" "s" "[I") (List.mem_of_getElem? (i := 2) rfl)) (fun _ h9 => h9) rfl dX8_keepState_19 ?_
  refine lv_iload_n hx hb dX8_keepState_22 rfl (lv_at hl 0 rfl) ?_
  refine va_iald hx hb hK hP 2 0 rfl rfl (vin rfl) dX8_keepState_23 ?_
  refine lv_topi (fun x_2 ex_2 => ?_)
  obtain rfl : x_2 = (sA 0) := ex_2
  refine va_iast hx hb hK hP hD hS 4 0 rfl rfl (kp_in hd5 (vin rfl)) dX8_keepState_24 (fun H locs hP1 hD1 hS1 => ?_)
  clear hP hD hS
  have hP : va_P (dC, dI) vwCl [(m0, .inr (8, mdL AM g)), (AM 0, .inl (cY 0, 72, .inl tb)), (AM 2, .inl (cY 0, 22, .inl sA)), (AM 3, .inl (cY 0, 22, .inl rd)), (AM 4, .inl (cY 0, 110, .inl (upd kp ((22 * depth) + 0).toNatClampNeg (sA 0)))), (AM 5, .inl (cY 0, 8414, .inl td)), (AM 6, .inl (cY 0, 2, .inl wn)), (AM 13, .inl (cY 0, 4, .inl rw)), (AM 14, .inl (cY 0, 4, .inl br))] H := hP1
  have hD : va_D A [(m0, .inr (8, mdL AM g)), (AM 0, .inl (cY 0, 72, .inl tb)), (AM 2, .inl (cY 0, 22, .inl sA)), (AM 3, .inl (cY 0, 22, .inl rd)), (AM 4, .inl (cY 0, 110, .inl (upd kp ((22 * depth) + 0).toNatClampNeg (sA 0)))), (AM 5, .inl (cY 0, 8414, .inl td)), (AM 6, .inl (cY 0, 2, .inl wn)), (AM 13, .inl (cY 0, 4, .inl rw)), (AM 14, .inl (cY 0, 4, .inl br))] := hD1
  have hS := hS1
  clear hP1 hD1 hS1
  refine lv_iinc (v := 1) (lv' := [(2, .int 1), (0, .ref m0), (1, .int depth)]) hx hb dX8_keepState_25 hl (k := 0) rfl (by first | rfl | decide) (by decide) rfl (fun ls hl => ?_)
  refine lv_goto (tgt := 2) hx hb dX8_keepState_28 (by decide) ?_
  refine lv_iload_n hx hb dX8_keepState_2 rfl (lv_at hl 0 rfl) ?_
  refine lv_bipush (v := 22) hx hb dX8_keepState_3 (by decide) ?_
  refine lv_icmp_ge (tgt := 31) hx hb dX8_keepState_5 (by decide) (fun c_3 => ?_) (fun c_3 => ?_)
  · exact absurd c_3 (by decide)
  refine lv_aload_n hx hb dX8_keepState_8 rfl (lv_at hl 1 rfl) ?_
  refine va_get (D := (dC, dI)) (ci := 8) (v := .ref (AM 4)) (C := RX8) (T := TX8) (N := 17) hx hb hts inw_X8_keepState_X8 hown hK hP 0 rfl rfl 4 (by decide) (hts (.fieldLink RX8 19 "DuelFramesModel" "kept" "[I") (List.mem_of_getElem? (i := 1) rfl)) (fun _ h9 => h9) rfl dX8_keepState_9 ?_
  refine lv_bipush (v := 22) hx hb dX8_keepState_12 (by decide) ?_
  refine lv_iload_n hx hb dX8_keepState_14 rfl (lv_at hl 2 rfl) ?_
  refine lv_imul hx hb dX8_keepState_15 ?_
  refine lv_iload_n hx hb dX8_keepState_16 rfl (lv_at hl 0 rfl) ?_
  refine lv_iadd hx hb dX8_keepState_17 ?_
  refine lv_aload_n hx hb dX8_keepState_18 rfl (lv_at hl 1 rfl) ?_
  refine va_get (D := (dC, dI)) (ci := 8) (v := .ref (AM 2)) (C := RX8) (T := TX8) (N := 17) hx hb hts inw_X8_keepState_X8 hown hK hP 0 rfl rfl 2 (by decide) (hts (.fieldLink RX8 13 "DuelFramesModel" "s" "[I") (List.mem_of_getElem? (i := 2) rfl)) (fun _ h9 => h9) rfl dX8_keepState_19 ?_
  refine lv_iload_n hx hb dX8_keepState_22 rfl (lv_at hl 0 rfl) ?_
  refine va_iald hx hb hK hP 2 0 rfl rfl (vin rfl) dX8_keepState_23 ?_
  refine lv_topi (fun x_4 ex_4 => ?_)
  obtain rfl : x_4 = (sA 1) := ex_4
  refine va_iast hx hb hK hP hD hS 4 0 rfl rfl (kp_in hd5 (vin rfl)) dX8_keepState_24 (fun H locs hP1 hD1 hS1 => ?_)
  clear hP hD hS
  have hP : va_P (dC, dI) vwCl [(m0, .inr (8, mdL AM g)), (AM 0, .inl (cY 0, 72, .inl tb)), (AM 2, .inl (cY 0, 22, .inl sA)), (AM 3, .inl (cY 0, 22, .inl rd)), (AM 4, .inl (cY 0, 110, .inl (upd (upd kp ((22 * depth) + 0).toNatClampNeg (sA 0)) ((22 * depth) + 1).toNatClampNeg (sA 1)))), (AM 5, .inl (cY 0, 8414, .inl td)), (AM 6, .inl (cY 0, 2, .inl wn)), (AM 13, .inl (cY 0, 4, .inl rw)), (AM 14, .inl (cY 0, 4, .inl br))] H := hP1
  have hD : va_D A [(m0, .inr (8, mdL AM g)), (AM 0, .inl (cY 0, 72, .inl tb)), (AM 2, .inl (cY 0, 22, .inl sA)), (AM 3, .inl (cY 0, 22, .inl rd)), (AM 4, .inl (cY 0, 110, .inl (upd (upd kp ((22 * depth) + 0).toNatClampNeg (sA 0)) ((22 * depth) + 1).toNatClampNeg (sA 1)))), (AM 5, .inl (cY 0, 8414, .inl td)), (AM 6, .inl (cY 0, 2, .inl wn)), (AM 13, .inl (cY 0, 4, .inl rw)), (AM 14, .inl (cY 0, 4, .inl br))] := hD1
  have hS := hS1
  clear hP1 hD1 hS1
  refine lv_iinc (v := 2) (lv' := [(2, .int 2), (0, .ref m0), (1, .int depth)]) hx hb dX8_keepState_25 hl (k := 0) rfl (by first | rfl | decide) (by decide) rfl (fun ls hl => ?_)
  refine lv_goto (tgt := 2) hx hb dX8_keepState_28 (by decide) ?_
  refine lv_iload_n hx hb dX8_keepState_2 rfl (lv_at hl 0 rfl) ?_
  refine lv_bipush (v := 22) hx hb dX8_keepState_3 (by decide) ?_
  refine lv_icmp_ge (tgt := 31) hx hb dX8_keepState_5 (by decide) (fun c_5 => ?_) (fun c_5 => ?_)
  · exact absurd c_5 (by decide)
  refine lv_aload_n hx hb dX8_keepState_8 rfl (lv_at hl 1 rfl) ?_
  refine va_get (D := (dC, dI)) (ci := 8) (v := .ref (AM 4)) (C := RX8) (T := TX8) (N := 17) hx hb hts inw_X8_keepState_X8 hown hK hP 0 rfl rfl 4 (by decide) (hts (.fieldLink RX8 19 "DuelFramesModel" "kept" "[I") (List.mem_of_getElem? (i := 1) rfl)) (fun _ h9 => h9) rfl dX8_keepState_9 ?_
  refine lv_bipush (v := 22) hx hb dX8_keepState_12 (by decide) ?_
  refine lv_iload_n hx hb dX8_keepState_14 rfl (lv_at hl 2 rfl) ?_
  refine lv_imul hx hb dX8_keepState_15 ?_
  refine lv_iload_n hx hb dX8_keepState_16 rfl (lv_at hl 0 rfl) ?_
  refine lv_iadd hx hb dX8_keepState_17 ?_
  refine lv_aload_n hx hb dX8_keepState_18 rfl (lv_at hl 1 rfl) ?_
  refine va_get (D := (dC, dI)) (ci := 8) (v := .ref (AM 2)) (C := RX8) (T := TX8) (N := 17) hx hb hts inw_X8_keepState_X8 hown hK hP 0 rfl rfl 2 (by decide) (hts (.fieldLink RX8 13 "DuelFramesModel" "s" "[I") (List.mem_of_getElem? (i := 2) rfl)) (fun _ h9 => h9) rfl dX8_keepState_19 ?_
  refine lv_iload_n hx hb dX8_keepState_22 rfl (lv_at hl 0 rfl) ?_
  refine va_iald hx hb hK hP 2 0 rfl rfl (vin rfl) dX8_keepState_23 ?_
  refine lv_topi (fun x_6 ex_6 => ?_)
  obtain rfl : x_6 = (sA 2) := ex_6
  refine va_iast hx hb hK hP hD hS 4 0 rfl rfl (kp_in hd5 (vin rfl)) dX8_keepState_24 (fun H locs hP1 hD1 hS1 => ?_)
  clear hP hD hS
  have hP : va_P (dC, dI) vwCl [(m0, .inr (8, mdL AM g)), (AM 0, .inl (cY 0, 72, .inl tb)), (AM 2, .inl (cY 0, 22, .inl sA)), (AM 3, .inl (cY 0, 22, .inl rd)), (AM 4, .inl (cY 0, 110, .inl (upd (upd (upd kp ((22 * depth) + 0).toNatClampNeg (sA 0)) ((22 * depth) + 1).toNatClampNeg (sA 1)) ((22 * depth) + 2).toNatClampNeg (sA 2)))), (AM 5, .inl (cY 0, 8414, .inl td)), (AM 6, .inl (cY 0, 2, .inl wn)), (AM 13, .inl (cY 0, 4, .inl rw)), (AM 14, .inl (cY 0, 4, .inl br))] H := hP1
  have hD : va_D A [(m0, .inr (8, mdL AM g)), (AM 0, .inl (cY 0, 72, .inl tb)), (AM 2, .inl (cY 0, 22, .inl sA)), (AM 3, .inl (cY 0, 22, .inl rd)), (AM 4, .inl (cY 0, 110, .inl (upd (upd (upd kp ((22 * depth) + 0).toNatClampNeg (sA 0)) ((22 * depth) + 1).toNatClampNeg (sA 1)) ((22 * depth) + 2).toNatClampNeg (sA 2)))), (AM 5, .inl (cY 0, 8414, .inl td)), (AM 6, .inl (cY 0, 2, .inl wn)), (AM 13, .inl (cY 0, 4, .inl rw)), (AM 14, .inl (cY 0, 4, .inl br))] := hD1
  have hS := hS1
  clear hP1 hD1 hS1
  refine lv_iinc (v := 3) (lv' := [(2, .int 3), (0, .ref m0), (1, .int depth)]) hx hb dX8_keepState_25 hl (k := 0) rfl (by first | rfl | decide) (by decide) rfl (fun ls hl => ?_)
  refine lv_goto (tgt := 2) hx hb dX8_keepState_28 (by decide) ?_
  refine lv_iload_n hx hb dX8_keepState_2 rfl (lv_at hl 0 rfl) ?_
  refine lv_bipush (v := 22) hx hb dX8_keepState_3 (by decide) ?_
  refine lv_icmp_ge (tgt := 31) hx hb dX8_keepState_5 (by decide) (fun c_7 => ?_) (fun c_7 => ?_)
  · exact absurd c_7 (by decide)
  refine lv_aload_n hx hb dX8_keepState_8 rfl (lv_at hl 1 rfl) ?_
  refine va_get (D := (dC, dI)) (ci := 8) (v := .ref (AM 4)) (C := RX8) (T := TX8) (N := 17) hx hb hts inw_X8_keepState_X8 hown hK hP 0 rfl rfl 4 (by decide) (hts (.fieldLink RX8 19 "DuelFramesModel" "kept" "[I") (List.mem_of_getElem? (i := 1) rfl)) (fun _ h9 => h9) rfl dX8_keepState_9 ?_
  refine lv_bipush (v := 22) hx hb dX8_keepState_12 (by decide) ?_
  refine lv_iload_n hx hb dX8_keepState_14 rfl (lv_at hl 2 rfl) ?_
  refine lv_imul hx hb dX8_keepState_15 ?_
  refine lv_iload_n hx hb dX8_keepState_16 rfl (lv_at hl 0 rfl) ?_
  refine lv_iadd hx hb dX8_keepState_17 ?_
  refine lv_aload_n hx hb dX8_keepState_18 rfl (lv_at hl 1 rfl) ?_
  refine va_get (D := (dC, dI)) (ci := 8) (v := .ref (AM 2)) (C := RX8) (T := TX8) (N := 17) hx hb hts inw_X8_keepState_X8 hown hK hP 0 rfl rfl 2 (by decide) (hts (.fieldLink RX8 13 "DuelFramesModel" "s" "[I") (List.mem_of_getElem? (i := 2) rfl)) (fun _ h9 => h9) rfl dX8_keepState_19 ?_
  refine lv_iload_n hx hb dX8_keepState_22 rfl (lv_at hl 0 rfl) ?_
  refine va_iald hx hb hK hP 2 0 rfl rfl (vin rfl) dX8_keepState_23 ?_
  refine lv_topi (fun x_8 ex_8 => ?_)
  obtain rfl : x_8 = (sA 3) := ex_8
  refine va_iast hx hb hK hP hD hS 4 0 rfl rfl (kp_in hd5 (vin rfl)) dX8_keepState_24 (fun H locs hP1 hD1 hS1 => ?_)
  clear hP hD hS
  have hP : va_P (dC, dI) vwCl [(m0, .inr (8, mdL AM g)), (AM 0, .inl (cY 0, 72, .inl tb)), (AM 2, .inl (cY 0, 22, .inl sA)), (AM 3, .inl (cY 0, 22, .inl rd)), (AM 4, .inl (cY 0, 110, .inl (upd (upd (upd (upd kp ((22 * depth) + 0).toNatClampNeg (sA 0)) ((22 * depth) + 1).toNatClampNeg (sA 1)) ((22 * depth) + 2).toNatClampNeg (sA 2)) ((22 * depth) + 3).toNatClampNeg (sA 3)))), (AM 5, .inl (cY 0, 8414, .inl td)), (AM 6, .inl (cY 0, 2, .inl wn)), (AM 13, .inl (cY 0, 4, .inl rw)), (AM 14, .inl (cY 0, 4, .inl br))] H := hP1
  have hD : va_D A [(m0, .inr (8, mdL AM g)), (AM 0, .inl (cY 0, 72, .inl tb)), (AM 2, .inl (cY 0, 22, .inl sA)), (AM 3, .inl (cY 0, 22, .inl rd)), (AM 4, .inl (cY 0, 110, .inl (upd (upd (upd (upd kp ((22 * depth) + 0).toNatClampNeg (sA 0)) ((22 * depth) + 1).toNatClampNeg (sA 1)) ((22 * depth) + 2).toNatClampNeg (sA 2)) ((22 * depth) + 3).toNatClampNeg (sA 3)))), (AM 5, .inl (cY 0, 8414, .inl td)), (AM 6, .inl (cY 0, 2, .inl wn)), (AM 13, .inl (cY 0, 4, .inl rw)), (AM 14, .inl (cY 0, 4, .inl br))] := hD1
  have hS := hS1
  clear hP1 hD1 hS1
  refine lv_iinc (v := 4) (lv' := [(2, .int 4), (0, .ref m0), (1, .int depth)]) hx hb dX8_keepState_25 hl (k := 0) rfl (by first | rfl | decide) (by decide) rfl (fun ls hl => ?_)
  refine lv_goto (tgt := 2) hx hb dX8_keepState_28 (by decide) ?_
  refine lv_iload_n hx hb dX8_keepState_2 rfl (lv_at hl 0 rfl) ?_
  refine lv_bipush (v := 22) hx hb dX8_keepState_3 (by decide) ?_
  refine lv_icmp_ge (tgt := 31) hx hb dX8_keepState_5 (by decide) (fun c_9 => ?_) (fun c_9 => ?_)
  · exact absurd c_9 (by decide)
  refine lv_aload_n hx hb dX8_keepState_8 rfl (lv_at hl 1 rfl) ?_
  refine va_get (D := (dC, dI)) (ci := 8) (v := .ref (AM 4)) (C := RX8) (T := TX8) (N := 17) hx hb hts inw_X8_keepState_X8 hown hK hP 0 rfl rfl 4 (by decide) (hts (.fieldLink RX8 19 "DuelFramesModel" "kept" "[I") (List.mem_of_getElem? (i := 1) rfl)) (fun _ h9 => h9) rfl dX8_keepState_9 ?_
  refine lv_bipush (v := 22) hx hb dX8_keepState_12 (by decide) ?_
  refine lv_iload_n hx hb dX8_keepState_14 rfl (lv_at hl 2 rfl) ?_
  refine lv_imul hx hb dX8_keepState_15 ?_
  refine lv_iload_n hx hb dX8_keepState_16 rfl (lv_at hl 0 rfl) ?_
  refine lv_iadd hx hb dX8_keepState_17 ?_
  refine lv_aload_n hx hb dX8_keepState_18 rfl (lv_at hl 1 rfl) ?_
  refine va_get (D := (dC, dI)) (ci := 8) (v := .ref (AM 2)) (C := RX8) (T := TX8) (N := 17) hx hb hts inw_X8_keepState_X8 hown hK hP 0 rfl rfl 2 (by decide) (hts (.fieldLink RX8 13 "DuelFramesModel" "s" "[I") (List.mem_of_getElem? (i := 2) rfl)) (fun _ h9 => h9) rfl dX8_keepState_19 ?_
  refine lv_iload_n hx hb dX8_keepState_22 rfl (lv_at hl 0 rfl) ?_
  refine va_iald hx hb hK hP 2 0 rfl rfl (vin rfl) dX8_keepState_23 ?_
  refine lv_topi (fun x_10 ex_10 => ?_)
  obtain rfl : x_10 = (sA 4) := ex_10
  refine va_iast hx hb hK hP hD hS 4 0 rfl rfl (kp_in hd5 (vin rfl)) dX8_keepState_24 (fun H locs hP1 hD1 hS1 => ?_)
  clear hP hD hS
  have hP : va_P (dC, dI) vwCl [(m0, .inr (8, mdL AM g)), (AM 0, .inl (cY 0, 72, .inl tb)), (AM 2, .inl (cY 0, 22, .inl sA)), (AM 3, .inl (cY 0, 22, .inl rd)), (AM 4, .inl (cY 0, 110, .inl (upd (upd (upd (upd (upd kp ((22 * depth) + 0).toNatClampNeg (sA 0)) ((22 * depth) + 1).toNatClampNeg (sA 1)) ((22 * depth) + 2).toNatClampNeg (sA 2)) ((22 * depth) + 3).toNatClampNeg (sA 3)) ((22 * depth) + 4).toNatClampNeg (sA 4)))), (AM 5, .inl (cY 0, 8414, .inl td)), (AM 6, .inl (cY 0, 2, .inl wn)), (AM 13, .inl (cY 0, 4, .inl rw)), (AM 14, .inl (cY 0, 4, .inl br))] H := hP1
  have hD : va_D A [(m0, .inr (8, mdL AM g)), (AM 0, .inl (cY 0, 72, .inl tb)), (AM 2, .inl (cY 0, 22, .inl sA)), (AM 3, .inl (cY 0, 22, .inl rd)), (AM 4, .inl (cY 0, 110, .inl (upd (upd (upd (upd (upd kp ((22 * depth) + 0).toNatClampNeg (sA 0)) ((22 * depth) + 1).toNatClampNeg (sA 1)) ((22 * depth) + 2).toNatClampNeg (sA 2)) ((22 * depth) + 3).toNatClampNeg (sA 3)) ((22 * depth) + 4).toNatClampNeg (sA 4)))), (AM 5, .inl (cY 0, 8414, .inl td)), (AM 6, .inl (cY 0, 2, .inl wn)), (AM 13, .inl (cY 0, 4, .inl rw)), (AM 14, .inl (cY 0, 4, .inl br))] := hD1
  have hS := hS1
  clear hP1 hD1 hS1
  refine lv_iinc (v := 5) (lv' := [(2, .int 5), (0, .ref m0), (1, .int depth)]) hx hb dX8_keepState_25 hl (k := 0) rfl (by first | rfl | decide) (by decide) rfl (fun ls hl => ?_)
  refine lv_goto (tgt := 2) hx hb dX8_keepState_28 (by decide) ?_
  refine lv_iload_n hx hb dX8_keepState_2 rfl (lv_at hl 0 rfl) ?_
  refine lv_bipush (v := 22) hx hb dX8_keepState_3 (by decide) ?_
  refine lv_icmp_ge (tgt := 31) hx hb dX8_keepState_5 (by decide) (fun c_11 => ?_) (fun c_11 => ?_)
  · exact absurd c_11 (by decide)
  refine lv_aload_n hx hb dX8_keepState_8 rfl (lv_at hl 1 rfl) ?_
  refine va_get (D := (dC, dI)) (ci := 8) (v := .ref (AM 4)) (C := RX8) (T := TX8) (N := 17) hx hb hts inw_X8_keepState_X8 hown hK hP 0 rfl rfl 4 (by decide) (hts (.fieldLink RX8 19 "DuelFramesModel" "kept" "[I") (List.mem_of_getElem? (i := 1) rfl)) (fun _ h9 => h9) rfl dX8_keepState_9 ?_
  refine lv_bipush (v := 22) hx hb dX8_keepState_12 (by decide) ?_
  refine lv_iload_n hx hb dX8_keepState_14 rfl (lv_at hl 2 rfl) ?_
  refine lv_imul hx hb dX8_keepState_15 ?_
  refine lv_iload_n hx hb dX8_keepState_16 rfl (lv_at hl 0 rfl) ?_
  refine lv_iadd hx hb dX8_keepState_17 ?_
  refine lv_aload_n hx hb dX8_keepState_18 rfl (lv_at hl 1 rfl) ?_
  refine va_get (D := (dC, dI)) (ci := 8) (v := .ref (AM 2)) (C := RX8) (T := TX8) (N := 17) hx hb hts inw_X8_keepState_X8 hown hK hP 0 rfl rfl 2 (by decide) (hts (.fieldLink RX8 13 "DuelFramesModel" "s" "[I") (List.mem_of_getElem? (i := 2) rfl)) (fun _ h9 => h9) rfl dX8_keepState_19 ?_
  refine lv_iload_n hx hb dX8_keepState_22 rfl (lv_at hl 0 rfl) ?_
  refine va_iald hx hb hK hP 2 0 rfl rfl (vin rfl) dX8_keepState_23 ?_
  refine lv_topi (fun x_12 ex_12 => ?_)
  obtain rfl : x_12 = (sA 5) := ex_12
  refine va_iast hx hb hK hP hD hS 4 0 rfl rfl (kp_in hd5 (vin rfl)) dX8_keepState_24 (fun H locs hP1 hD1 hS1 => ?_)
  clear hP hD hS
  have hP : va_P (dC, dI) vwCl [(m0, .inr (8, mdL AM g)), (AM 0, .inl (cY 0, 72, .inl tb)), (AM 2, .inl (cY 0, 22, .inl sA)), (AM 3, .inl (cY 0, 22, .inl rd)), (AM 4, .inl (cY 0, 110, .inl (upd (upd (upd (upd (upd (upd kp ((22 * depth) + 0).toNatClampNeg (sA 0)) ((22 * depth) + 1).toNatClampNeg (sA 1)) ((22 * depth) + 2).toNatClampNeg (sA 2)) ((22 * depth) + 3).toNatClampNeg (sA 3)) ((22 * depth) + 4).toNatClampNeg (sA 4)) ((22 * depth) + 5).toNatClampNeg (sA 5)))), (AM 5, .inl (cY 0, 8414, .inl td)), (AM 6, .inl (cY 0, 2, .inl wn)), (AM 13, .inl (cY 0, 4, .inl rw)), (AM 14, .inl (cY 0, 4, .inl br))] H := hP1
  have hD : va_D A [(m0, .inr (8, mdL AM g)), (AM 0, .inl (cY 0, 72, .inl tb)), (AM 2, .inl (cY 0, 22, .inl sA)), (AM 3, .inl (cY 0, 22, .inl rd)), (AM 4, .inl (cY 0, 110, .inl (upd (upd (upd (upd (upd (upd kp ((22 * depth) + 0).toNatClampNeg (sA 0)) ((22 * depth) + 1).toNatClampNeg (sA 1)) ((22 * depth) + 2).toNatClampNeg (sA 2)) ((22 * depth) + 3).toNatClampNeg (sA 3)) ((22 * depth) + 4).toNatClampNeg (sA 4)) ((22 * depth) + 5).toNatClampNeg (sA 5)))), (AM 5, .inl (cY 0, 8414, .inl td)), (AM 6, .inl (cY 0, 2, .inl wn)), (AM 13, .inl (cY 0, 4, .inl rw)), (AM 14, .inl (cY 0, 4, .inl br))] := hD1
  have hS := hS1
  clear hP1 hD1 hS1
  refine lv_iinc (v := 6) (lv' := [(2, .int 6), (0, .ref m0), (1, .int depth)]) hx hb dX8_keepState_25 hl (k := 0) rfl (by first | rfl | decide) (by decide) rfl (fun ls hl => ?_)
  refine lv_goto (tgt := 2) hx hb dX8_keepState_28 (by decide) ?_
  refine lv_iload_n hx hb dX8_keepState_2 rfl (lv_at hl 0 rfl) ?_
  refine lv_bipush (v := 22) hx hb dX8_keepState_3 (by decide) ?_
  refine lv_icmp_ge (tgt := 31) hx hb dX8_keepState_5 (by decide) (fun c_13 => ?_) (fun c_13 => ?_)
  · exact absurd c_13 (by decide)
  refine lv_aload_n hx hb dX8_keepState_8 rfl (lv_at hl 1 rfl) ?_
  refine va_get (D := (dC, dI)) (ci := 8) (v := .ref (AM 4)) (C := RX8) (T := TX8) (N := 17) hx hb hts inw_X8_keepState_X8 hown hK hP 0 rfl rfl 4 (by decide) (hts (.fieldLink RX8 19 "DuelFramesModel" "kept" "[I") (List.mem_of_getElem? (i := 1) rfl)) (fun _ h9 => h9) rfl dX8_keepState_9 ?_
  refine lv_bipush (v := 22) hx hb dX8_keepState_12 (by decide) ?_
  refine lv_iload_n hx hb dX8_keepState_14 rfl (lv_at hl 2 rfl) ?_
  refine lv_imul hx hb dX8_keepState_15 ?_
  refine lv_iload_n hx hb dX8_keepState_16 rfl (lv_at hl 0 rfl) ?_
  refine lv_iadd hx hb dX8_keepState_17 ?_
  refine lv_aload_n hx hb dX8_keepState_18 rfl (lv_at hl 1 rfl) ?_
  refine va_get (D := (dC, dI)) (ci := 8) (v := .ref (AM 2)) (C := RX8) (T := TX8) (N := 17) hx hb hts inw_X8_keepState_X8 hown hK hP 0 rfl rfl 2 (by decide) (hts (.fieldLink RX8 13 "DuelFramesModel" "s" "[I") (List.mem_of_getElem? (i := 2) rfl)) (fun _ h9 => h9) rfl dX8_keepState_19 ?_
  refine lv_iload_n hx hb dX8_keepState_22 rfl (lv_at hl 0 rfl) ?_
  refine va_iald hx hb hK hP 2 0 rfl rfl (vin rfl) dX8_keepState_23 ?_
  refine lv_topi (fun x_14 ex_14 => ?_)
  obtain rfl : x_14 = (sA 6) := ex_14
  refine va_iast hx hb hK hP hD hS 4 0 rfl rfl (kp_in hd5 (vin rfl)) dX8_keepState_24 (fun H locs hP1 hD1 hS1 => ?_)
  clear hP hD hS
  have hP : va_P (dC, dI) vwCl [(m0, .inr (8, mdL AM g)), (AM 0, .inl (cY 0, 72, .inl tb)), (AM 2, .inl (cY 0, 22, .inl sA)), (AM 3, .inl (cY 0, 22, .inl rd)), (AM 4, .inl (cY 0, 110, .inl (upd (upd (upd (upd (upd (upd (upd kp ((22 * depth) + 0).toNatClampNeg (sA 0)) ((22 * depth) + 1).toNatClampNeg (sA 1)) ((22 * depth) + 2).toNatClampNeg (sA 2)) ((22 * depth) + 3).toNatClampNeg (sA 3)) ((22 * depth) + 4).toNatClampNeg (sA 4)) ((22 * depth) + 5).toNatClampNeg (sA 5)) ((22 * depth) + 6).toNatClampNeg (sA 6)))), (AM 5, .inl (cY 0, 8414, .inl td)), (AM 6, .inl (cY 0, 2, .inl wn)), (AM 13, .inl (cY 0, 4, .inl rw)), (AM 14, .inl (cY 0, 4, .inl br))] H := hP1
  have hD : va_D A [(m0, .inr (8, mdL AM g)), (AM 0, .inl (cY 0, 72, .inl tb)), (AM 2, .inl (cY 0, 22, .inl sA)), (AM 3, .inl (cY 0, 22, .inl rd)), (AM 4, .inl (cY 0, 110, .inl (upd (upd (upd (upd (upd (upd (upd kp ((22 * depth) + 0).toNatClampNeg (sA 0)) ((22 * depth) + 1).toNatClampNeg (sA 1)) ((22 * depth) + 2).toNatClampNeg (sA 2)) ((22 * depth) + 3).toNatClampNeg (sA 3)) ((22 * depth) + 4).toNatClampNeg (sA 4)) ((22 * depth) + 5).toNatClampNeg (sA 5)) ((22 * depth) + 6).toNatClampNeg (sA 6)))), (AM 5, .inl (cY 0, 8414, .inl td)), (AM 6, .inl (cY 0, 2, .inl wn)), (AM 13, .inl (cY 0, 4, .inl rw)), (AM 14, .inl (cY 0, 4, .inl br))] := hD1
  have hS := hS1
  clear hP1 hD1 hS1
  refine lv_iinc (v := 7) (lv' := [(2, .int 7), (0, .ref m0), (1, .int depth)]) hx hb dX8_keepState_25 hl (k := 0) rfl (by first | rfl | decide) (by decide) rfl (fun ls hl => ?_)
  refine lv_goto (tgt := 2) hx hb dX8_keepState_28 (by decide) ?_
  refine lv_iload_n hx hb dX8_keepState_2 rfl (lv_at hl 0 rfl) ?_
  refine lv_bipush (v := 22) hx hb dX8_keepState_3 (by decide) ?_
  refine lv_icmp_ge (tgt := 31) hx hb dX8_keepState_5 (by decide) (fun c_15 => ?_) (fun c_15 => ?_)
  · exact absurd c_15 (by decide)
  refine lv_aload_n hx hb dX8_keepState_8 rfl (lv_at hl 1 rfl) ?_
  refine va_get (D := (dC, dI)) (ci := 8) (v := .ref (AM 4)) (C := RX8) (T := TX8) (N := 17) hx hb hts inw_X8_keepState_X8 hown hK hP 0 rfl rfl 4 (by decide) (hts (.fieldLink RX8 19 "DuelFramesModel" "kept" "[I") (List.mem_of_getElem? (i := 1) rfl)) (fun _ h9 => h9) rfl dX8_keepState_9 ?_
  refine lv_bipush (v := 22) hx hb dX8_keepState_12 (by decide) ?_
  refine lv_iload_n hx hb dX8_keepState_14 rfl (lv_at hl 2 rfl) ?_
  refine lv_imul hx hb dX8_keepState_15 ?_
  refine lv_iload_n hx hb dX8_keepState_16 rfl (lv_at hl 0 rfl) ?_
  refine lv_iadd hx hb dX8_keepState_17 ?_
  refine lv_aload_n hx hb dX8_keepState_18 rfl (lv_at hl 1 rfl) ?_
  refine va_get (D := (dC, dI)) (ci := 8) (v := .ref (AM 2)) (C := RX8) (T := TX8) (N := 17) hx hb hts inw_X8_keepState_X8 hown hK hP 0 rfl rfl 2 (by decide) (hts (.fieldLink RX8 13 "DuelFramesModel" "s" "[I") (List.mem_of_getElem? (i := 2) rfl)) (fun _ h9 => h9) rfl dX8_keepState_19 ?_
  refine lv_iload_n hx hb dX8_keepState_22 rfl (lv_at hl 0 rfl) ?_
  refine va_iald hx hb hK hP 2 0 rfl rfl (vin rfl) dX8_keepState_23 ?_
  refine lv_topi (fun x_16 ex_16 => ?_)
  obtain rfl : x_16 = (sA 7) := ex_16
  refine va_iast hx hb hK hP hD hS 4 0 rfl rfl (kp_in hd5 (vin rfl)) dX8_keepState_24 (fun H locs hP1 hD1 hS1 => ?_)
  clear hP hD hS
  have hP : va_P (dC, dI) vwCl [(m0, .inr (8, mdL AM g)), (AM 0, .inl (cY 0, 72, .inl tb)), (AM 2, .inl (cY 0, 22, .inl sA)), (AM 3, .inl (cY 0, 22, .inl rd)), (AM 4, .inl (cY 0, 110, .inl (upd (upd (upd (upd (upd (upd (upd (upd kp ((22 * depth) + 0).toNatClampNeg (sA 0)) ((22 * depth) + 1).toNatClampNeg (sA 1)) ((22 * depth) + 2).toNatClampNeg (sA 2)) ((22 * depth) + 3).toNatClampNeg (sA 3)) ((22 * depth) + 4).toNatClampNeg (sA 4)) ((22 * depth) + 5).toNatClampNeg (sA 5)) ((22 * depth) + 6).toNatClampNeg (sA 6)) ((22 * depth) + 7).toNatClampNeg (sA 7)))), (AM 5, .inl (cY 0, 8414, .inl td)), (AM 6, .inl (cY 0, 2, .inl wn)), (AM 13, .inl (cY 0, 4, .inl rw)), (AM 14, .inl (cY 0, 4, .inl br))] H := hP1
  have hD : va_D A [(m0, .inr (8, mdL AM g)), (AM 0, .inl (cY 0, 72, .inl tb)), (AM 2, .inl (cY 0, 22, .inl sA)), (AM 3, .inl (cY 0, 22, .inl rd)), (AM 4, .inl (cY 0, 110, .inl (upd (upd (upd (upd (upd (upd (upd (upd kp ((22 * depth) + 0).toNatClampNeg (sA 0)) ((22 * depth) + 1).toNatClampNeg (sA 1)) ((22 * depth) + 2).toNatClampNeg (sA 2)) ((22 * depth) + 3).toNatClampNeg (sA 3)) ((22 * depth) + 4).toNatClampNeg (sA 4)) ((22 * depth) + 5).toNatClampNeg (sA 5)) ((22 * depth) + 6).toNatClampNeg (sA 6)) ((22 * depth) + 7).toNatClampNeg (sA 7)))), (AM 5, .inl (cY 0, 8414, .inl td)), (AM 6, .inl (cY 0, 2, .inl wn)), (AM 13, .inl (cY 0, 4, .inl rw)), (AM 14, .inl (cY 0, 4, .inl br))] := hD1
  have hS := hS1
  clear hP1 hD1 hS1
  refine lv_iinc (v := 8) (lv' := [(2, .int 8), (0, .ref m0), (1, .int depth)]) hx hb dX8_keepState_25 hl (k := 0) rfl (by first | rfl | decide) (by decide) rfl (fun ls hl => ?_)
  refine lv_goto (tgt := 2) hx hb dX8_keepState_28 (by decide) ?_
  refine lv_iload_n hx hb dX8_keepState_2 rfl (lv_at hl 0 rfl) ?_
  refine lv_bipush (v := 22) hx hb dX8_keepState_3 (by decide) ?_
  refine lv_icmp_ge (tgt := 31) hx hb dX8_keepState_5 (by decide) (fun c_17 => ?_) (fun c_17 => ?_)
  · exact absurd c_17 (by decide)
  refine lv_aload_n hx hb dX8_keepState_8 rfl (lv_at hl 1 rfl) ?_
  refine va_get (D := (dC, dI)) (ci := 8) (v := .ref (AM 4)) (C := RX8) (T := TX8) (N := 17) hx hb hts inw_X8_keepState_X8 hown hK hP 0 rfl rfl 4 (by decide) (hts (.fieldLink RX8 19 "DuelFramesModel" "kept" "[I") (List.mem_of_getElem? (i := 1) rfl)) (fun _ h9 => h9) rfl dX8_keepState_9 ?_
  refine lv_bipush (v := 22) hx hb dX8_keepState_12 (by decide) ?_
  refine lv_iload_n hx hb dX8_keepState_14 rfl (lv_at hl 2 rfl) ?_
  refine lv_imul hx hb dX8_keepState_15 ?_
  refine lv_iload_n hx hb dX8_keepState_16 rfl (lv_at hl 0 rfl) ?_
  refine lv_iadd hx hb dX8_keepState_17 ?_
  refine lv_aload_n hx hb dX8_keepState_18 rfl (lv_at hl 1 rfl) ?_
  refine va_get (D := (dC, dI)) (ci := 8) (v := .ref (AM 2)) (C := RX8) (T := TX8) (N := 17) hx hb hts inw_X8_keepState_X8 hown hK hP 0 rfl rfl 2 (by decide) (hts (.fieldLink RX8 13 "DuelFramesModel" "s" "[I") (List.mem_of_getElem? (i := 2) rfl)) (fun _ h9 => h9) rfl dX8_keepState_19 ?_
  refine lv_iload_n hx hb dX8_keepState_22 rfl (lv_at hl 0 rfl) ?_
  refine va_iald hx hb hK hP 2 0 rfl rfl (vin rfl) dX8_keepState_23 ?_
  refine lv_topi (fun x_18 ex_18 => ?_)
  obtain rfl : x_18 = (sA 8) := ex_18
  refine va_iast hx hb hK hP hD hS 4 0 rfl rfl (kp_in hd5 (vin rfl)) dX8_keepState_24 (fun H locs hP1 hD1 hS1 => ?_)
  clear hP hD hS
  have hP : va_P (dC, dI) vwCl [(m0, .inr (8, mdL AM g)), (AM 0, .inl (cY 0, 72, .inl tb)), (AM 2, .inl (cY 0, 22, .inl sA)), (AM 3, .inl (cY 0, 22, .inl rd)), (AM 4, .inl (cY 0, 110, .inl (upd (upd (upd (upd (upd (upd (upd (upd (upd kp ((22 * depth) + 0).toNatClampNeg (sA 0)) ((22 * depth) + 1).toNatClampNeg (sA 1)) ((22 * depth) + 2).toNatClampNeg (sA 2)) ((22 * depth) + 3).toNatClampNeg (sA 3)) ((22 * depth) + 4).toNatClampNeg (sA 4)) ((22 * depth) + 5).toNatClampNeg (sA 5)) ((22 * depth) + 6).toNatClampNeg (sA 6)) ((22 * depth) + 7).toNatClampNeg (sA 7)) ((22 * depth) + 8).toNatClampNeg (sA 8)))), (AM 5, .inl (cY 0, 8414, .inl td)), (AM 6, .inl (cY 0, 2, .inl wn)), (AM 13, .inl (cY 0, 4, .inl rw)), (AM 14, .inl (cY 0, 4, .inl br))] H := hP1
  have hD : va_D A [(m0, .inr (8, mdL AM g)), (AM 0, .inl (cY 0, 72, .inl tb)), (AM 2, .inl (cY 0, 22, .inl sA)), (AM 3, .inl (cY 0, 22, .inl rd)), (AM 4, .inl (cY 0, 110, .inl (upd (upd (upd (upd (upd (upd (upd (upd (upd kp ((22 * depth) + 0).toNatClampNeg (sA 0)) ((22 * depth) + 1).toNatClampNeg (sA 1)) ((22 * depth) + 2).toNatClampNeg (sA 2)) ((22 * depth) + 3).toNatClampNeg (sA 3)) ((22 * depth) + 4).toNatClampNeg (sA 4)) ((22 * depth) + 5).toNatClampNeg (sA 5)) ((22 * depth) + 6).toNatClampNeg (sA 6)) ((22 * depth) + 7).toNatClampNeg (sA 7)) ((22 * depth) + 8).toNatClampNeg (sA 8)))), (AM 5, .inl (cY 0, 8414, .inl td)), (AM 6, .inl (cY 0, 2, .inl wn)), (AM 13, .inl (cY 0, 4, .inl rw)), (AM 14, .inl (cY 0, 4, .inl br))] := hD1
  have hS := hS1
  clear hP1 hD1 hS1
  refine lv_iinc (v := 9) (lv' := [(2, .int 9), (0, .ref m0), (1, .int depth)]) hx hb dX8_keepState_25 hl (k := 0) rfl (by first | rfl | decide) (by decide) rfl (fun ls hl => ?_)
  refine lv_goto (tgt := 2) hx hb dX8_keepState_28 (by decide) ?_
  refine lv_iload_n hx hb dX8_keepState_2 rfl (lv_at hl 0 rfl) ?_
  refine lv_bipush (v := 22) hx hb dX8_keepState_3 (by decide) ?_
  refine lv_icmp_ge (tgt := 31) hx hb dX8_keepState_5 (by decide) (fun c_19 => ?_) (fun c_19 => ?_)
  · exact absurd c_19 (by decide)
  refine lv_aload_n hx hb dX8_keepState_8 rfl (lv_at hl 1 rfl) ?_
  refine va_get (D := (dC, dI)) (ci := 8) (v := .ref (AM 4)) (C := RX8) (T := TX8) (N := 17) hx hb hts inw_X8_keepState_X8 hown hK hP 0 rfl rfl 4 (by decide) (hts (.fieldLink RX8 19 "DuelFramesModel" "kept" "[I") (List.mem_of_getElem? (i := 1) rfl)) (fun _ h9 => h9) rfl dX8_keepState_9 ?_
  refine lv_bipush (v := 22) hx hb dX8_keepState_12 (by decide) ?_
  refine lv_iload_n hx hb dX8_keepState_14 rfl (lv_at hl 2 rfl) ?_
  refine lv_imul hx hb dX8_keepState_15 ?_
  refine lv_iload_n hx hb dX8_keepState_16 rfl (lv_at hl 0 rfl) ?_
  refine lv_iadd hx hb dX8_keepState_17 ?_
  refine lv_aload_n hx hb dX8_keepState_18 rfl (lv_at hl 1 rfl) ?_
  refine va_get (D := (dC, dI)) (ci := 8) (v := .ref (AM 2)) (C := RX8) (T := TX8) (N := 17) hx hb hts inw_X8_keepState_X8 hown hK hP 0 rfl rfl 2 (by decide) (hts (.fieldLink RX8 13 "DuelFramesModel" "s" "[I") (List.mem_of_getElem? (i := 2) rfl)) (fun _ h9 => h9) rfl dX8_keepState_19 ?_
  refine lv_iload_n hx hb dX8_keepState_22 rfl (lv_at hl 0 rfl) ?_
  refine va_iald hx hb hK hP 2 0 rfl rfl (vin rfl) dX8_keepState_23 ?_
  refine lv_topi (fun x_20 ex_20 => ?_)
  obtain rfl : x_20 = (sA 9) := ex_20
  refine va_iast hx hb hK hP hD hS 4 0 rfl rfl (kp_in hd5 (vin rfl)) dX8_keepState_24 (fun H locs hP1 hD1 hS1 => ?_)
  clear hP hD hS
  have hP : va_P (dC, dI) vwCl [(m0, .inr (8, mdL AM g)), (AM 0, .inl (cY 0, 72, .inl tb)), (AM 2, .inl (cY 0, 22, .inl sA)), (AM 3, .inl (cY 0, 22, .inl rd)), (AM 4, .inl (cY 0, 110, .inl (upd (upd (upd (upd (upd (upd (upd (upd (upd (upd kp ((22 * depth) + 0).toNatClampNeg (sA 0)) ((22 * depth) + 1).toNatClampNeg (sA 1)) ((22 * depth) + 2).toNatClampNeg (sA 2)) ((22 * depth) + 3).toNatClampNeg (sA 3)) ((22 * depth) + 4).toNatClampNeg (sA 4)) ((22 * depth) + 5).toNatClampNeg (sA 5)) ((22 * depth) + 6).toNatClampNeg (sA 6)) ((22 * depth) + 7).toNatClampNeg (sA 7)) ((22 * depth) + 8).toNatClampNeg (sA 8)) ((22 * depth) + 9).toNatClampNeg (sA 9)))), (AM 5, .inl (cY 0, 8414, .inl td)), (AM 6, .inl (cY 0, 2, .inl wn)), (AM 13, .inl (cY 0, 4, .inl rw)), (AM 14, .inl (cY 0, 4, .inl br))] H := hP1
  have hD : va_D A [(m0, .inr (8, mdL AM g)), (AM 0, .inl (cY 0, 72, .inl tb)), (AM 2, .inl (cY 0, 22, .inl sA)), (AM 3, .inl (cY 0, 22, .inl rd)), (AM 4, .inl (cY 0, 110, .inl (upd (upd (upd (upd (upd (upd (upd (upd (upd (upd kp ((22 * depth) + 0).toNatClampNeg (sA 0)) ((22 * depth) + 1).toNatClampNeg (sA 1)) ((22 * depth) + 2).toNatClampNeg (sA 2)) ((22 * depth) + 3).toNatClampNeg (sA 3)) ((22 * depth) + 4).toNatClampNeg (sA 4)) ((22 * depth) + 5).toNatClampNeg (sA 5)) ((22 * depth) + 6).toNatClampNeg (sA 6)) ((22 * depth) + 7).toNatClampNeg (sA 7)) ((22 * depth) + 8).toNatClampNeg (sA 8)) ((22 * depth) + 9).toNatClampNeg (sA 9)))), (AM 5, .inl (cY 0, 8414, .inl td)), (AM 6, .inl (cY 0, 2, .inl wn)), (AM 13, .inl (cY 0, 4, .inl rw)), (AM 14, .inl (cY 0, 4, .inl br))] := hD1
  have hS := hS1
  clear hP1 hD1 hS1
  refine lv_iinc (v := 10) (lv' := [(2, .int 10), (0, .ref m0), (1, .int depth)]) hx hb dX8_keepState_25 hl (k := 0) rfl (by first | rfl | decide) (by decide) rfl (fun ls hl => ?_)
  refine lv_goto (tgt := 2) hx hb dX8_keepState_28 (by decide) ?_
  refine lv_iload_n hx hb dX8_keepState_2 rfl (lv_at hl 0 rfl) ?_
  refine lv_bipush (v := 22) hx hb dX8_keepState_3 (by decide) ?_
  refine lv_icmp_ge (tgt := 31) hx hb dX8_keepState_5 (by decide) (fun c_21 => ?_) (fun c_21 => ?_)
  · exact absurd c_21 (by decide)
  refine lv_aload_n hx hb dX8_keepState_8 rfl (lv_at hl 1 rfl) ?_
  refine va_get (D := (dC, dI)) (ci := 8) (v := .ref (AM 4)) (C := RX8) (T := TX8) (N := 17) hx hb hts inw_X8_keepState_X8 hown hK hP 0 rfl rfl 4 (by decide) (hts (.fieldLink RX8 19 "DuelFramesModel" "kept" "[I") (List.mem_of_getElem? (i := 1) rfl)) (fun _ h9 => h9) rfl dX8_keepState_9 ?_
  refine lv_bipush (v := 22) hx hb dX8_keepState_12 (by decide) ?_
  refine lv_iload_n hx hb dX8_keepState_14 rfl (lv_at hl 2 rfl) ?_
  refine lv_imul hx hb dX8_keepState_15 ?_
  refine lv_iload_n hx hb dX8_keepState_16 rfl (lv_at hl 0 rfl) ?_
  refine lv_iadd hx hb dX8_keepState_17 ?_
  refine lv_aload_n hx hb dX8_keepState_18 rfl (lv_at hl 1 rfl) ?_
  refine va_get (D := (dC, dI)) (ci := 8) (v := .ref (AM 2)) (C := RX8) (T := TX8) (N := 17) hx hb hts inw_X8_keepState_X8 hown hK hP 0 rfl rfl 2 (by decide) (hts (.fieldLink RX8 13 "DuelFramesModel" "s" "[I") (List.mem_of_getElem? (i := 2) rfl)) (fun _ h9 => h9) rfl dX8_keepState_19 ?_
  refine lv_iload_n hx hb dX8_keepState_22 rfl (lv_at hl 0 rfl) ?_
  refine va_iald hx hb hK hP 2 0 rfl rfl (vin rfl) dX8_keepState_23 ?_
  refine lv_topi (fun x_22 ex_22 => ?_)
  obtain rfl : x_22 = (sA 10) := ex_22
  refine va_iast hx hb hK hP hD hS 4 0 rfl rfl (kp_in hd5 (vin rfl)) dX8_keepState_24 (fun H locs hP1 hD1 hS1 => ?_)
  clear hP hD hS
  have hP : va_P (dC, dI) vwCl [(m0, .inr (8, mdL AM g)), (AM 0, .inl (cY 0, 72, .inl tb)), (AM 2, .inl (cY 0, 22, .inl sA)), (AM 3, .inl (cY 0, 22, .inl rd)), (AM 4, .inl (cY 0, 110, .inl (upd (upd (upd (upd (upd (upd (upd (upd (upd (upd (upd kp ((22 * depth) + 0).toNatClampNeg (sA 0)) ((22 * depth) + 1).toNatClampNeg (sA 1)) ((22 * depth) + 2).toNatClampNeg (sA 2)) ((22 * depth) + 3).toNatClampNeg (sA 3)) ((22 * depth) + 4).toNatClampNeg (sA 4)) ((22 * depth) + 5).toNatClampNeg (sA 5)) ((22 * depth) + 6).toNatClampNeg (sA 6)) ((22 * depth) + 7).toNatClampNeg (sA 7)) ((22 * depth) + 8).toNatClampNeg (sA 8)) ((22 * depth) + 9).toNatClampNeg (sA 9)) ((22 * depth) + 10).toNatClampNeg (sA 10)))), (AM 5, .inl (cY 0, 8414, .inl td)), (AM 6, .inl (cY 0, 2, .inl wn)), (AM 13, .inl (cY 0, 4, .inl rw)), (AM 14, .inl (cY 0, 4, .inl br))] H := hP1
  have hD : va_D A [(m0, .inr (8, mdL AM g)), (AM 0, .inl (cY 0, 72, .inl tb)), (AM 2, .inl (cY 0, 22, .inl sA)), (AM 3, .inl (cY 0, 22, .inl rd)), (AM 4, .inl (cY 0, 110, .inl (upd (upd (upd (upd (upd (upd (upd (upd (upd (upd (upd kp ((22 * depth) + 0).toNatClampNeg (sA 0)) ((22 * depth) + 1).toNatClampNeg (sA 1)) ((22 * depth) + 2).toNatClampNeg (sA 2)) ((22 * depth) + 3).toNatClampNeg (sA 3)) ((22 * depth) + 4).toNatClampNeg (sA 4)) ((22 * depth) + 5).toNatClampNeg (sA 5)) ((22 * depth) + 6).toNatClampNeg (sA 6)) ((22 * depth) + 7).toNatClampNeg (sA 7)) ((22 * depth) + 8).toNatClampNeg (sA 8)) ((22 * depth) + 9).toNatClampNeg (sA 9)) ((22 * depth) + 10).toNatClampNeg (sA 10)))), (AM 5, .inl (cY 0, 8414, .inl td)), (AM 6, .inl (cY 0, 2, .inl wn)), (AM 13, .inl (cY 0, 4, .inl rw)), (AM 14, .inl (cY 0, 4, .inl br))] := hD1
  have hS := hS1
  clear hP1 hD1 hS1
  refine lv_iinc (v := 11) (lv' := [(2, .int 11), (0, .ref m0), (1, .int depth)]) hx hb dX8_keepState_25 hl (k := 0) rfl (by first | rfl | decide) (by decide) rfl (fun ls hl => ?_)
  refine lv_goto (tgt := 2) hx hb dX8_keepState_28 (by decide) ?_
  refine lv_iload_n hx hb dX8_keepState_2 rfl (lv_at hl 0 rfl) ?_
  refine lv_bipush (v := 22) hx hb dX8_keepState_3 (by decide) ?_
  refine lv_icmp_ge (tgt := 31) hx hb dX8_keepState_5 (by decide) (fun c_23 => ?_) (fun c_23 => ?_)
  · exact absurd c_23 (by decide)
  refine lv_aload_n hx hb dX8_keepState_8 rfl (lv_at hl 1 rfl) ?_
  refine va_get (D := (dC, dI)) (ci := 8) (v := .ref (AM 4)) (C := RX8) (T := TX8) (N := 17) hx hb hts inw_X8_keepState_X8 hown hK hP 0 rfl rfl 4 (by decide) (hts (.fieldLink RX8 19 "DuelFramesModel" "kept" "[I") (List.mem_of_getElem? (i := 1) rfl)) (fun _ h9 => h9) rfl dX8_keepState_9 ?_
  refine lv_bipush (v := 22) hx hb dX8_keepState_12 (by decide) ?_
  refine lv_iload_n hx hb dX8_keepState_14 rfl (lv_at hl 2 rfl) ?_
  refine lv_imul hx hb dX8_keepState_15 ?_
  refine lv_iload_n hx hb dX8_keepState_16 rfl (lv_at hl 0 rfl) ?_
  refine lv_iadd hx hb dX8_keepState_17 ?_
  refine lv_aload_n hx hb dX8_keepState_18 rfl (lv_at hl 1 rfl) ?_
  refine va_get (D := (dC, dI)) (ci := 8) (v := .ref (AM 2)) (C := RX8) (T := TX8) (N := 17) hx hb hts inw_X8_keepState_X8 hown hK hP 0 rfl rfl 2 (by decide) (hts (.fieldLink RX8 13 "DuelFramesModel" "s" "[I") (List.mem_of_getElem? (i := 2) rfl)) (fun _ h9 => h9) rfl dX8_keepState_19 ?_
  refine lv_iload_n hx hb dX8_keepState_22 rfl (lv_at hl 0 rfl) ?_
  refine va_iald hx hb hK hP 2 0 rfl rfl (vin rfl) dX8_keepState_23 ?_
  refine lv_topi (fun x_24 ex_24 => ?_)
  obtain rfl : x_24 = (sA 11) := ex_24
  refine va_iast hx hb hK hP hD hS 4 0 rfl rfl (kp_in hd5 (vin rfl)) dX8_keepState_24 (fun H locs hP1 hD1 hS1 => ?_)
  clear hP hD hS
  have hP : va_P (dC, dI) vwCl [(m0, .inr (8, mdL AM g)), (AM 0, .inl (cY 0, 72, .inl tb)), (AM 2, .inl (cY 0, 22, .inl sA)), (AM 3, .inl (cY 0, 22, .inl rd)), (AM 4, .inl (cY 0, 110, .inl (upd (upd (upd (upd (upd (upd (upd (upd (upd (upd (upd (upd kp ((22 * depth) + 0).toNatClampNeg (sA 0)) ((22 * depth) + 1).toNatClampNeg (sA 1)) ((22 * depth) + 2).toNatClampNeg (sA 2)) ((22 * depth) + 3).toNatClampNeg (sA 3)) ((22 * depth) + 4).toNatClampNeg (sA 4)) ((22 * depth) + 5).toNatClampNeg (sA 5)) ((22 * depth) + 6).toNatClampNeg (sA 6)) ((22 * depth) + 7).toNatClampNeg (sA 7)) ((22 * depth) + 8).toNatClampNeg (sA 8)) ((22 * depth) + 9).toNatClampNeg (sA 9)) ((22 * depth) + 10).toNatClampNeg (sA 10)) ((22 * depth) + 11).toNatClampNeg (sA 11)))), (AM 5, .inl (cY 0, 8414, .inl td)), (AM 6, .inl (cY 0, 2, .inl wn)), (AM 13, .inl (cY 0, 4, .inl rw)), (AM 14, .inl (cY 0, 4, .inl br))] H := hP1
  have hD : va_D A [(m0, .inr (8, mdL AM g)), (AM 0, .inl (cY 0, 72, .inl tb)), (AM 2, .inl (cY 0, 22, .inl sA)), (AM 3, .inl (cY 0, 22, .inl rd)), (AM 4, .inl (cY 0, 110, .inl (upd (upd (upd (upd (upd (upd (upd (upd (upd (upd (upd (upd kp ((22 * depth) + 0).toNatClampNeg (sA 0)) ((22 * depth) + 1).toNatClampNeg (sA 1)) ((22 * depth) + 2).toNatClampNeg (sA 2)) ((22 * depth) + 3).toNatClampNeg (sA 3)) ((22 * depth) + 4).toNatClampNeg (sA 4)) ((22 * depth) + 5).toNatClampNeg (sA 5)) ((22 * depth) + 6).toNatClampNeg (sA 6)) ((22 * depth) + 7).toNatClampNeg (sA 7)) ((22 * depth) + 8).toNatClampNeg (sA 8)) ((22 * depth) + 9).toNatClampNeg (sA 9)) ((22 * depth) + 10).toNatClampNeg (sA 10)) ((22 * depth) + 11).toNatClampNeg (sA 11)))), (AM 5, .inl (cY 0, 8414, .inl td)), (AM 6, .inl (cY 0, 2, .inl wn)), (AM 13, .inl (cY 0, 4, .inl rw)), (AM 14, .inl (cY 0, 4, .inl br))] := hD1
  have hS := hS1
  clear hP1 hD1 hS1
  refine lv_iinc (v := 12) (lv' := [(2, .int 12), (0, .ref m0), (1, .int depth)]) hx hb dX8_keepState_25 hl (k := 0) rfl (by first | rfl | decide) (by decide) rfl (fun ls hl => ?_)
  refine lv_goto (tgt := 2) hx hb dX8_keepState_28 (by decide) ?_
  refine lv_iload_n hx hb dX8_keepState_2 rfl (lv_at hl 0 rfl) ?_
  refine lv_bipush (v := 22) hx hb dX8_keepState_3 (by decide) ?_
  refine lv_icmp_ge (tgt := 31) hx hb dX8_keepState_5 (by decide) (fun c_25 => ?_) (fun c_25 => ?_)
  · exact absurd c_25 (by decide)
  refine lv_aload_n hx hb dX8_keepState_8 rfl (lv_at hl 1 rfl) ?_
  refine va_get (D := (dC, dI)) (ci := 8) (v := .ref (AM 4)) (C := RX8) (T := TX8) (N := 17) hx hb hts inw_X8_keepState_X8 hown hK hP 0 rfl rfl 4 (by decide) (hts (.fieldLink RX8 19 "DuelFramesModel" "kept" "[I") (List.mem_of_getElem? (i := 1) rfl)) (fun _ h9 => h9) rfl dX8_keepState_9 ?_
  refine lv_bipush (v := 22) hx hb dX8_keepState_12 (by decide) ?_
  refine lv_iload_n hx hb dX8_keepState_14 rfl (lv_at hl 2 rfl) ?_
  refine lv_imul hx hb dX8_keepState_15 ?_
  refine lv_iload_n hx hb dX8_keepState_16 rfl (lv_at hl 0 rfl) ?_
  refine lv_iadd hx hb dX8_keepState_17 ?_
  refine lv_aload_n hx hb dX8_keepState_18 rfl (lv_at hl 1 rfl) ?_
  refine va_get (D := (dC, dI)) (ci := 8) (v := .ref (AM 2)) (C := RX8) (T := TX8) (N := 17) hx hb hts inw_X8_keepState_X8 hown hK hP 0 rfl rfl 2 (by decide) (hts (.fieldLink RX8 13 "DuelFramesModel" "s" "[I") (List.mem_of_getElem? (i := 2) rfl)) (fun _ h9 => h9) rfl dX8_keepState_19 ?_
  refine lv_iload_n hx hb dX8_keepState_22 rfl (lv_at hl 0 rfl) ?_
  refine va_iald hx hb hK hP 2 0 rfl rfl (vin rfl) dX8_keepState_23 ?_
  refine lv_topi (fun x_26 ex_26 => ?_)
  obtain rfl : x_26 = (sA 12) := ex_26
  refine va_iast hx hb hK hP hD hS 4 0 rfl rfl (kp_in hd5 (vin rfl)) dX8_keepState_24 (fun H locs hP1 hD1 hS1 => ?_)
  clear hP hD hS
  have hP : va_P (dC, dI) vwCl [(m0, .inr (8, mdL AM g)), (AM 0, .inl (cY 0, 72, .inl tb)), (AM 2, .inl (cY 0, 22, .inl sA)), (AM 3, .inl (cY 0, 22, .inl rd)), (AM 4, .inl (cY 0, 110, .inl (upd (upd (upd (upd (upd (upd (upd (upd (upd (upd (upd (upd (upd kp ((22 * depth) + 0).toNatClampNeg (sA 0)) ((22 * depth) + 1).toNatClampNeg (sA 1)) ((22 * depth) + 2).toNatClampNeg (sA 2)) ((22 * depth) + 3).toNatClampNeg (sA 3)) ((22 * depth) + 4).toNatClampNeg (sA 4)) ((22 * depth) + 5).toNatClampNeg (sA 5)) ((22 * depth) + 6).toNatClampNeg (sA 6)) ((22 * depth) + 7).toNatClampNeg (sA 7)) ((22 * depth) + 8).toNatClampNeg (sA 8)) ((22 * depth) + 9).toNatClampNeg (sA 9)) ((22 * depth) + 10).toNatClampNeg (sA 10)) ((22 * depth) + 11).toNatClampNeg (sA 11)) ((22 * depth) + 12).toNatClampNeg (sA 12)))), (AM 5, .inl (cY 0, 8414, .inl td)), (AM 6, .inl (cY 0, 2, .inl wn)), (AM 13, .inl (cY 0, 4, .inl rw)), (AM 14, .inl (cY 0, 4, .inl br))] H := hP1
  have hD : va_D A [(m0, .inr (8, mdL AM g)), (AM 0, .inl (cY 0, 72, .inl tb)), (AM 2, .inl (cY 0, 22, .inl sA)), (AM 3, .inl (cY 0, 22, .inl rd)), (AM 4, .inl (cY 0, 110, .inl (upd (upd (upd (upd (upd (upd (upd (upd (upd (upd (upd (upd (upd kp ((22 * depth) + 0).toNatClampNeg (sA 0)) ((22 * depth) + 1).toNatClampNeg (sA 1)) ((22 * depth) + 2).toNatClampNeg (sA 2)) ((22 * depth) + 3).toNatClampNeg (sA 3)) ((22 * depth) + 4).toNatClampNeg (sA 4)) ((22 * depth) + 5).toNatClampNeg (sA 5)) ((22 * depth) + 6).toNatClampNeg (sA 6)) ((22 * depth) + 7).toNatClampNeg (sA 7)) ((22 * depth) + 8).toNatClampNeg (sA 8)) ((22 * depth) + 9).toNatClampNeg (sA 9)) ((22 * depth) + 10).toNatClampNeg (sA 10)) ((22 * depth) + 11).toNatClampNeg (sA 11)) ((22 * depth) + 12).toNatClampNeg (sA 12)))), (AM 5, .inl (cY 0, 8414, .inl td)), (AM 6, .inl (cY 0, 2, .inl wn)), (AM 13, .inl (cY 0, 4, .inl rw)), (AM 14, .inl (cY 0, 4, .inl br))] := hD1
  have hS := hS1
  clear hP1 hD1 hS1
  refine lv_iinc (v := 13) (lv' := [(2, .int 13), (0, .ref m0), (1, .int depth)]) hx hb dX8_keepState_25 hl (k := 0) rfl (by first | rfl | decide) (by decide) rfl (fun ls hl => ?_)
  refine lv_goto (tgt := 2) hx hb dX8_keepState_28 (by decide) ?_
  refine lv_iload_n hx hb dX8_keepState_2 rfl (lv_at hl 0 rfl) ?_
  refine lv_bipush (v := 22) hx hb dX8_keepState_3 (by decide) ?_
  refine lv_icmp_ge (tgt := 31) hx hb dX8_keepState_5 (by decide) (fun c_27 => ?_) (fun c_27 => ?_)
  · exact absurd c_27 (by decide)
  refine lv_aload_n hx hb dX8_keepState_8 rfl (lv_at hl 1 rfl) ?_
  refine va_get (D := (dC, dI)) (ci := 8) (v := .ref (AM 4)) (C := RX8) (T := TX8) (N := 17) hx hb hts inw_X8_keepState_X8 hown hK hP 0 rfl rfl 4 (by decide) (hts (.fieldLink RX8 19 "DuelFramesModel" "kept" "[I") (List.mem_of_getElem? (i := 1) rfl)) (fun _ h9 => h9) rfl dX8_keepState_9 ?_
  refine lv_bipush (v := 22) hx hb dX8_keepState_12 (by decide) ?_
  refine lv_iload_n hx hb dX8_keepState_14 rfl (lv_at hl 2 rfl) ?_
  refine lv_imul hx hb dX8_keepState_15 ?_
  refine lv_iload_n hx hb dX8_keepState_16 rfl (lv_at hl 0 rfl) ?_
  refine lv_iadd hx hb dX8_keepState_17 ?_
  refine lv_aload_n hx hb dX8_keepState_18 rfl (lv_at hl 1 rfl) ?_
  refine va_get (D := (dC, dI)) (ci := 8) (v := .ref (AM 2)) (C := RX8) (T := TX8) (N := 17) hx hb hts inw_X8_keepState_X8 hown hK hP 0 rfl rfl 2 (by decide) (hts (.fieldLink RX8 13 "DuelFramesModel" "s" "[I") (List.mem_of_getElem? (i := 2) rfl)) (fun _ h9 => h9) rfl dX8_keepState_19 ?_
  refine lv_iload_n hx hb dX8_keepState_22 rfl (lv_at hl 0 rfl) ?_
  refine va_iald hx hb hK hP 2 0 rfl rfl (vin rfl) dX8_keepState_23 ?_
  refine lv_topi (fun x_28 ex_28 => ?_)
  obtain rfl : x_28 = (sA 13) := ex_28
  refine va_iast hx hb hK hP hD hS 4 0 rfl rfl (kp_in hd5 (vin rfl)) dX8_keepState_24 (fun H locs hP1 hD1 hS1 => ?_)
  clear hP hD hS
  have hP : va_P (dC, dI) vwCl [(m0, .inr (8, mdL AM g)), (AM 0, .inl (cY 0, 72, .inl tb)), (AM 2, .inl (cY 0, 22, .inl sA)), (AM 3, .inl (cY 0, 22, .inl rd)), (AM 4, .inl (cY 0, 110, .inl (upd (upd (upd (upd (upd (upd (upd (upd (upd (upd (upd (upd (upd (upd kp ((22 * depth) + 0).toNatClampNeg (sA 0)) ((22 * depth) + 1).toNatClampNeg (sA 1)) ((22 * depth) + 2).toNatClampNeg (sA 2)) ((22 * depth) + 3).toNatClampNeg (sA 3)) ((22 * depth) + 4).toNatClampNeg (sA 4)) ((22 * depth) + 5).toNatClampNeg (sA 5)) ((22 * depth) + 6).toNatClampNeg (sA 6)) ((22 * depth) + 7).toNatClampNeg (sA 7)) ((22 * depth) + 8).toNatClampNeg (sA 8)) ((22 * depth) + 9).toNatClampNeg (sA 9)) ((22 * depth) + 10).toNatClampNeg (sA 10)) ((22 * depth) + 11).toNatClampNeg (sA 11)) ((22 * depth) + 12).toNatClampNeg (sA 12)) ((22 * depth) + 13).toNatClampNeg (sA 13)))), (AM 5, .inl (cY 0, 8414, .inl td)), (AM 6, .inl (cY 0, 2, .inl wn)), (AM 13, .inl (cY 0, 4, .inl rw)), (AM 14, .inl (cY 0, 4, .inl br))] H := hP1
  have hD : va_D A [(m0, .inr (8, mdL AM g)), (AM 0, .inl (cY 0, 72, .inl tb)), (AM 2, .inl (cY 0, 22, .inl sA)), (AM 3, .inl (cY 0, 22, .inl rd)), (AM 4, .inl (cY 0, 110, .inl (upd (upd (upd (upd (upd (upd (upd (upd (upd (upd (upd (upd (upd (upd kp ((22 * depth) + 0).toNatClampNeg (sA 0)) ((22 * depth) + 1).toNatClampNeg (sA 1)) ((22 * depth) + 2).toNatClampNeg (sA 2)) ((22 * depth) + 3).toNatClampNeg (sA 3)) ((22 * depth) + 4).toNatClampNeg (sA 4)) ((22 * depth) + 5).toNatClampNeg (sA 5)) ((22 * depth) + 6).toNatClampNeg (sA 6)) ((22 * depth) + 7).toNatClampNeg (sA 7)) ((22 * depth) + 8).toNatClampNeg (sA 8)) ((22 * depth) + 9).toNatClampNeg (sA 9)) ((22 * depth) + 10).toNatClampNeg (sA 10)) ((22 * depth) + 11).toNatClampNeg (sA 11)) ((22 * depth) + 12).toNatClampNeg (sA 12)) ((22 * depth) + 13).toNatClampNeg (sA 13)))), (AM 5, .inl (cY 0, 8414, .inl td)), (AM 6, .inl (cY 0, 2, .inl wn)), (AM 13, .inl (cY 0, 4, .inl rw)), (AM 14, .inl (cY 0, 4, .inl br))] := hD1
  have hS := hS1
  clear hP1 hD1 hS1
  refine lv_iinc (v := 14) (lv' := [(2, .int 14), (0, .ref m0), (1, .int depth)]) hx hb dX8_keepState_25 hl (k := 0) rfl (by first | rfl | decide) (by decide) rfl (fun ls hl => ?_)
  refine lv_goto (tgt := 2) hx hb dX8_keepState_28 (by decide) ?_
  refine lv_iload_n hx hb dX8_keepState_2 rfl (lv_at hl 0 rfl) ?_
  refine lv_bipush (v := 22) hx hb dX8_keepState_3 (by decide) ?_
  refine lv_icmp_ge (tgt := 31) hx hb dX8_keepState_5 (by decide) (fun c_29 => ?_) (fun c_29 => ?_)
  · exact absurd c_29 (by decide)
  refine lv_aload_n hx hb dX8_keepState_8 rfl (lv_at hl 1 rfl) ?_
  refine va_get (D := (dC, dI)) (ci := 8) (v := .ref (AM 4)) (C := RX8) (T := TX8) (N := 17) hx hb hts inw_X8_keepState_X8 hown hK hP 0 rfl rfl 4 (by decide) (hts (.fieldLink RX8 19 "DuelFramesModel" "kept" "[I") (List.mem_of_getElem? (i := 1) rfl)) (fun _ h9 => h9) rfl dX8_keepState_9 ?_
  refine lv_bipush (v := 22) hx hb dX8_keepState_12 (by decide) ?_
  refine lv_iload_n hx hb dX8_keepState_14 rfl (lv_at hl 2 rfl) ?_
  refine lv_imul hx hb dX8_keepState_15 ?_
  refine lv_iload_n hx hb dX8_keepState_16 rfl (lv_at hl 0 rfl) ?_
  refine lv_iadd hx hb dX8_keepState_17 ?_
  refine lv_aload_n hx hb dX8_keepState_18 rfl (lv_at hl 1 rfl) ?_
  refine va_get (D := (dC, dI)) (ci := 8) (v := .ref (AM 2)) (C := RX8) (T := TX8) (N := 17) hx hb hts inw_X8_keepState_X8 hown hK hP 0 rfl rfl 2 (by decide) (hts (.fieldLink RX8 13 "DuelFramesModel" "s" "[I") (List.mem_of_getElem? (i := 2) rfl)) (fun _ h9 => h9) rfl dX8_keepState_19 ?_
  refine lv_iload_n hx hb dX8_keepState_22 rfl (lv_at hl 0 rfl) ?_
  refine va_iald hx hb hK hP 2 0 rfl rfl (vin rfl) dX8_keepState_23 ?_
  refine lv_topi (fun x_30 ex_30 => ?_)
  obtain rfl : x_30 = (sA 14) := ex_30
  refine va_iast hx hb hK hP hD hS 4 0 rfl rfl (kp_in hd5 (vin rfl)) dX8_keepState_24 (fun H locs hP1 hD1 hS1 => ?_)
  clear hP hD hS
  have hP : va_P (dC, dI) vwCl [(m0, .inr (8, mdL AM g)), (AM 0, .inl (cY 0, 72, .inl tb)), (AM 2, .inl (cY 0, 22, .inl sA)), (AM 3, .inl (cY 0, 22, .inl rd)), (AM 4, .inl (cY 0, 110, .inl (upd (upd (upd (upd (upd (upd (upd (upd (upd (upd (upd (upd (upd (upd (upd kp ((22 * depth) + 0).toNatClampNeg (sA 0)) ((22 * depth) + 1).toNatClampNeg (sA 1)) ((22 * depth) + 2).toNatClampNeg (sA 2)) ((22 * depth) + 3).toNatClampNeg (sA 3)) ((22 * depth) + 4).toNatClampNeg (sA 4)) ((22 * depth) + 5).toNatClampNeg (sA 5)) ((22 * depth) + 6).toNatClampNeg (sA 6)) ((22 * depth) + 7).toNatClampNeg (sA 7)) ((22 * depth) + 8).toNatClampNeg (sA 8)) ((22 * depth) + 9).toNatClampNeg (sA 9)) ((22 * depth) + 10).toNatClampNeg (sA 10)) ((22 * depth) + 11).toNatClampNeg (sA 11)) ((22 * depth) + 12).toNatClampNeg (sA 12)) ((22 * depth) + 13).toNatClampNeg (sA 13)) ((22 * depth) + 14).toNatClampNeg (sA 14)))), (AM 5, .inl (cY 0, 8414, .inl td)), (AM 6, .inl (cY 0, 2, .inl wn)), (AM 13, .inl (cY 0, 4, .inl rw)), (AM 14, .inl (cY 0, 4, .inl br))] H := hP1
  have hD : va_D A [(m0, .inr (8, mdL AM g)), (AM 0, .inl (cY 0, 72, .inl tb)), (AM 2, .inl (cY 0, 22, .inl sA)), (AM 3, .inl (cY 0, 22, .inl rd)), (AM 4, .inl (cY 0, 110, .inl (upd (upd (upd (upd (upd (upd (upd (upd (upd (upd (upd (upd (upd (upd (upd kp ((22 * depth) + 0).toNatClampNeg (sA 0)) ((22 * depth) + 1).toNatClampNeg (sA 1)) ((22 * depth) + 2).toNatClampNeg (sA 2)) ((22 * depth) + 3).toNatClampNeg (sA 3)) ((22 * depth) + 4).toNatClampNeg (sA 4)) ((22 * depth) + 5).toNatClampNeg (sA 5)) ((22 * depth) + 6).toNatClampNeg (sA 6)) ((22 * depth) + 7).toNatClampNeg (sA 7)) ((22 * depth) + 8).toNatClampNeg (sA 8)) ((22 * depth) + 9).toNatClampNeg (sA 9)) ((22 * depth) + 10).toNatClampNeg (sA 10)) ((22 * depth) + 11).toNatClampNeg (sA 11)) ((22 * depth) + 12).toNatClampNeg (sA 12)) ((22 * depth) + 13).toNatClampNeg (sA 13)) ((22 * depth) + 14).toNatClampNeg (sA 14)))), (AM 5, .inl (cY 0, 8414, .inl td)), (AM 6, .inl (cY 0, 2, .inl wn)), (AM 13, .inl (cY 0, 4, .inl rw)), (AM 14, .inl (cY 0, 4, .inl br))] := hD1
  have hS := hS1
  clear hP1 hD1 hS1
  refine lv_iinc (v := 15) (lv' := [(2, .int 15), (0, .ref m0), (1, .int depth)]) hx hb dX8_keepState_25 hl (k := 0) rfl (by first | rfl | decide) (by decide) rfl (fun ls hl => ?_)
  refine lv_goto (tgt := 2) hx hb dX8_keepState_28 (by decide) ?_
  refine lv_iload_n hx hb dX8_keepState_2 rfl (lv_at hl 0 rfl) ?_
  refine lv_bipush (v := 22) hx hb dX8_keepState_3 (by decide) ?_
  refine lv_icmp_ge (tgt := 31) hx hb dX8_keepState_5 (by decide) (fun c_31 => ?_) (fun c_31 => ?_)
  · exact absurd c_31 (by decide)
  refine lv_aload_n hx hb dX8_keepState_8 rfl (lv_at hl 1 rfl) ?_
  refine va_get (D := (dC, dI)) (ci := 8) (v := .ref (AM 4)) (C := RX8) (T := TX8) (N := 17) hx hb hts inw_X8_keepState_X8 hown hK hP 0 rfl rfl 4 (by decide) (hts (.fieldLink RX8 19 "DuelFramesModel" "kept" "[I") (List.mem_of_getElem? (i := 1) rfl)) (fun _ h9 => h9) rfl dX8_keepState_9 ?_
  refine lv_bipush (v := 22) hx hb dX8_keepState_12 (by decide) ?_
  refine lv_iload_n hx hb dX8_keepState_14 rfl (lv_at hl 2 rfl) ?_
  refine lv_imul hx hb dX8_keepState_15 ?_
  refine lv_iload_n hx hb dX8_keepState_16 rfl (lv_at hl 0 rfl) ?_
  refine lv_iadd hx hb dX8_keepState_17 ?_
  refine lv_aload_n hx hb dX8_keepState_18 rfl (lv_at hl 1 rfl) ?_
  refine va_get (D := (dC, dI)) (ci := 8) (v := .ref (AM 2)) (C := RX8) (T := TX8) (N := 17) hx hb hts inw_X8_keepState_X8 hown hK hP 0 rfl rfl 2 (by decide) (hts (.fieldLink RX8 13 "DuelFramesModel" "s" "[I") (List.mem_of_getElem? (i := 2) rfl)) (fun _ h9 => h9) rfl dX8_keepState_19 ?_
  refine lv_iload_n hx hb dX8_keepState_22 rfl (lv_at hl 0 rfl) ?_
  refine va_iald hx hb hK hP 2 0 rfl rfl (vin rfl) dX8_keepState_23 ?_
  refine lv_topi (fun x_32 ex_32 => ?_)
  obtain rfl : x_32 = (sA 15) := ex_32
  refine va_iast hx hb hK hP hD hS 4 0 rfl rfl (kp_in hd5 (vin rfl)) dX8_keepState_24 (fun H locs hP1 hD1 hS1 => ?_)
  clear hP hD hS
  have hP : va_P (dC, dI) vwCl [(m0, .inr (8, mdL AM g)), (AM 0, .inl (cY 0, 72, .inl tb)), (AM 2, .inl (cY 0, 22, .inl sA)), (AM 3, .inl (cY 0, 22, .inl rd)), (AM 4, .inl (cY 0, 110, .inl (upd (upd (upd (upd (upd (upd (upd (upd (upd (upd (upd (upd (upd (upd (upd (upd kp ((22 * depth) + 0).toNatClampNeg (sA 0)) ((22 * depth) + 1).toNatClampNeg (sA 1)) ((22 * depth) + 2).toNatClampNeg (sA 2)) ((22 * depth) + 3).toNatClampNeg (sA 3)) ((22 * depth) + 4).toNatClampNeg (sA 4)) ((22 * depth) + 5).toNatClampNeg (sA 5)) ((22 * depth) + 6).toNatClampNeg (sA 6)) ((22 * depth) + 7).toNatClampNeg (sA 7)) ((22 * depth) + 8).toNatClampNeg (sA 8)) ((22 * depth) + 9).toNatClampNeg (sA 9)) ((22 * depth) + 10).toNatClampNeg (sA 10)) ((22 * depth) + 11).toNatClampNeg (sA 11)) ((22 * depth) + 12).toNatClampNeg (sA 12)) ((22 * depth) + 13).toNatClampNeg (sA 13)) ((22 * depth) + 14).toNatClampNeg (sA 14)) ((22 * depth) + 15).toNatClampNeg (sA 15)))), (AM 5, .inl (cY 0, 8414, .inl td)), (AM 6, .inl (cY 0, 2, .inl wn)), (AM 13, .inl (cY 0, 4, .inl rw)), (AM 14, .inl (cY 0, 4, .inl br))] H := hP1
  have hD : va_D A [(m0, .inr (8, mdL AM g)), (AM 0, .inl (cY 0, 72, .inl tb)), (AM 2, .inl (cY 0, 22, .inl sA)), (AM 3, .inl (cY 0, 22, .inl rd)), (AM 4, .inl (cY 0, 110, .inl (upd (upd (upd (upd (upd (upd (upd (upd (upd (upd (upd (upd (upd (upd (upd (upd kp ((22 * depth) + 0).toNatClampNeg (sA 0)) ((22 * depth) + 1).toNatClampNeg (sA 1)) ((22 * depth) + 2).toNatClampNeg (sA 2)) ((22 * depth) + 3).toNatClampNeg (sA 3)) ((22 * depth) + 4).toNatClampNeg (sA 4)) ((22 * depth) + 5).toNatClampNeg (sA 5)) ((22 * depth) + 6).toNatClampNeg (sA 6)) ((22 * depth) + 7).toNatClampNeg (sA 7)) ((22 * depth) + 8).toNatClampNeg (sA 8)) ((22 * depth) + 9).toNatClampNeg (sA 9)) ((22 * depth) + 10).toNatClampNeg (sA 10)) ((22 * depth) + 11).toNatClampNeg (sA 11)) ((22 * depth) + 12).toNatClampNeg (sA 12)) ((22 * depth) + 13).toNatClampNeg (sA 13)) ((22 * depth) + 14).toNatClampNeg (sA 14)) ((22 * depth) + 15).toNatClampNeg (sA 15)))), (AM 5, .inl (cY 0, 8414, .inl td)), (AM 6, .inl (cY 0, 2, .inl wn)), (AM 13, .inl (cY 0, 4, .inl rw)), (AM 14, .inl (cY 0, 4, .inl br))] := hD1
  have hS := hS1
  clear hP1 hD1 hS1
  refine lv_iinc (v := 16) (lv' := [(2, .int 16), (0, .ref m0), (1, .int depth)]) hx hb dX8_keepState_25 hl (k := 0) rfl (by first | rfl | decide) (by decide) rfl (fun ls hl => ?_)
  refine lv_goto (tgt := 2) hx hb dX8_keepState_28 (by decide) ?_
  refine lv_iload_n hx hb dX8_keepState_2 rfl (lv_at hl 0 rfl) ?_
  refine lv_bipush (v := 22) hx hb dX8_keepState_3 (by decide) ?_
  refine lv_icmp_ge (tgt := 31) hx hb dX8_keepState_5 (by decide) (fun c_33 => ?_) (fun c_33 => ?_)
  · exact absurd c_33 (by decide)
  refine lv_aload_n hx hb dX8_keepState_8 rfl (lv_at hl 1 rfl) ?_
  refine va_get (D := (dC, dI)) (ci := 8) (v := .ref (AM 4)) (C := RX8) (T := TX8) (N := 17) hx hb hts inw_X8_keepState_X8 hown hK hP 0 rfl rfl 4 (by decide) (hts (.fieldLink RX8 19 "DuelFramesModel" "kept" "[I") (List.mem_of_getElem? (i := 1) rfl)) (fun _ h9 => h9) rfl dX8_keepState_9 ?_
  refine lv_bipush (v := 22) hx hb dX8_keepState_12 (by decide) ?_
  refine lv_iload_n hx hb dX8_keepState_14 rfl (lv_at hl 2 rfl) ?_
  refine lv_imul hx hb dX8_keepState_15 ?_
  refine lv_iload_n hx hb dX8_keepState_16 rfl (lv_at hl 0 rfl) ?_
  refine lv_iadd hx hb dX8_keepState_17 ?_
  refine lv_aload_n hx hb dX8_keepState_18 rfl (lv_at hl 1 rfl) ?_
  refine va_get (D := (dC, dI)) (ci := 8) (v := .ref (AM 2)) (C := RX8) (T := TX8) (N := 17) hx hb hts inw_X8_keepState_X8 hown hK hP 0 rfl rfl 2 (by decide) (hts (.fieldLink RX8 13 "DuelFramesModel" "s" "[I") (List.mem_of_getElem? (i := 2) rfl)) (fun _ h9 => h9) rfl dX8_keepState_19 ?_
  refine lv_iload_n hx hb dX8_keepState_22 rfl (lv_at hl 0 rfl) ?_
  refine va_iald hx hb hK hP 2 0 rfl rfl (vin rfl) dX8_keepState_23 ?_
  refine lv_topi (fun x_34 ex_34 => ?_)
  obtain rfl : x_34 = (sA 16) := ex_34
  refine va_iast hx hb hK hP hD hS 4 0 rfl rfl (kp_in hd5 (vin rfl)) dX8_keepState_24 (fun H locs hP1 hD1 hS1 => ?_)
  clear hP hD hS
  have hP : va_P (dC, dI) vwCl [(m0, .inr (8, mdL AM g)), (AM 0, .inl (cY 0, 72, .inl tb)), (AM 2, .inl (cY 0, 22, .inl sA)), (AM 3, .inl (cY 0, 22, .inl rd)), (AM 4, .inl (cY 0, 110, .inl (upd (upd (upd (upd (upd (upd (upd (upd (upd (upd (upd (upd (upd (upd (upd (upd (upd kp ((22 * depth) + 0).toNatClampNeg (sA 0)) ((22 * depth) + 1).toNatClampNeg (sA 1)) ((22 * depth) + 2).toNatClampNeg (sA 2)) ((22 * depth) + 3).toNatClampNeg (sA 3)) ((22 * depth) + 4).toNatClampNeg (sA 4)) ((22 * depth) + 5).toNatClampNeg (sA 5)) ((22 * depth) + 6).toNatClampNeg (sA 6)) ((22 * depth) + 7).toNatClampNeg (sA 7)) ((22 * depth) + 8).toNatClampNeg (sA 8)) ((22 * depth) + 9).toNatClampNeg (sA 9)) ((22 * depth) + 10).toNatClampNeg (sA 10)) ((22 * depth) + 11).toNatClampNeg (sA 11)) ((22 * depth) + 12).toNatClampNeg (sA 12)) ((22 * depth) + 13).toNatClampNeg (sA 13)) ((22 * depth) + 14).toNatClampNeg (sA 14)) ((22 * depth) + 15).toNatClampNeg (sA 15)) ((22 * depth) + 16).toNatClampNeg (sA 16)))), (AM 5, .inl (cY 0, 8414, .inl td)), (AM 6, .inl (cY 0, 2, .inl wn)), (AM 13, .inl (cY 0, 4, .inl rw)), (AM 14, .inl (cY 0, 4, .inl br))] H := hP1
  have hD : va_D A [(m0, .inr (8, mdL AM g)), (AM 0, .inl (cY 0, 72, .inl tb)), (AM 2, .inl (cY 0, 22, .inl sA)), (AM 3, .inl (cY 0, 22, .inl rd)), (AM 4, .inl (cY 0, 110, .inl (upd (upd (upd (upd (upd (upd (upd (upd (upd (upd (upd (upd (upd (upd (upd (upd (upd kp ((22 * depth) + 0).toNatClampNeg (sA 0)) ((22 * depth) + 1).toNatClampNeg (sA 1)) ((22 * depth) + 2).toNatClampNeg (sA 2)) ((22 * depth) + 3).toNatClampNeg (sA 3)) ((22 * depth) + 4).toNatClampNeg (sA 4)) ((22 * depth) + 5).toNatClampNeg (sA 5)) ((22 * depth) + 6).toNatClampNeg (sA 6)) ((22 * depth) + 7).toNatClampNeg (sA 7)) ((22 * depth) + 8).toNatClampNeg (sA 8)) ((22 * depth) + 9).toNatClampNeg (sA 9)) ((22 * depth) + 10).toNatClampNeg (sA 10)) ((22 * depth) + 11).toNatClampNeg (sA 11)) ((22 * depth) + 12).toNatClampNeg (sA 12)) ((22 * depth) + 13).toNatClampNeg (sA 13)) ((22 * depth) + 14).toNatClampNeg (sA 14)) ((22 * depth) + 15).toNatClampNeg (sA 15)) ((22 * depth) + 16).toNatClampNeg (sA 16)))), (AM 5, .inl (cY 0, 8414, .inl td)), (AM 6, .inl (cY 0, 2, .inl wn)), (AM 13, .inl (cY 0, 4, .inl rw)), (AM 14, .inl (cY 0, 4, .inl br))] := hD1
  have hS := hS1
  clear hP1 hD1 hS1
  refine lv_iinc (v := 17) (lv' := [(2, .int 17), (0, .ref m0), (1, .int depth)]) hx hb dX8_keepState_25 hl (k := 0) rfl (by first | rfl | decide) (by decide) rfl (fun ls hl => ?_)
  refine lv_goto (tgt := 2) hx hb dX8_keepState_28 (by decide) ?_
  refine lv_iload_n hx hb dX8_keepState_2 rfl (lv_at hl 0 rfl) ?_
  refine lv_bipush (v := 22) hx hb dX8_keepState_3 (by decide) ?_
  refine lv_icmp_ge (tgt := 31) hx hb dX8_keepState_5 (by decide) (fun c_35 => ?_) (fun c_35 => ?_)
  · exact absurd c_35 (by decide)
  refine lv_aload_n hx hb dX8_keepState_8 rfl (lv_at hl 1 rfl) ?_
  refine va_get (D := (dC, dI)) (ci := 8) (v := .ref (AM 4)) (C := RX8) (T := TX8) (N := 17) hx hb hts inw_X8_keepState_X8 hown hK hP 0 rfl rfl 4 (by decide) (hts (.fieldLink RX8 19 "DuelFramesModel" "kept" "[I") (List.mem_of_getElem? (i := 1) rfl)) (fun _ h9 => h9) rfl dX8_keepState_9 ?_
  refine lv_bipush (v := 22) hx hb dX8_keepState_12 (by decide) ?_
  refine lv_iload_n hx hb dX8_keepState_14 rfl (lv_at hl 2 rfl) ?_
  refine lv_imul hx hb dX8_keepState_15 ?_
  refine lv_iload_n hx hb dX8_keepState_16 rfl (lv_at hl 0 rfl) ?_
  refine lv_iadd hx hb dX8_keepState_17 ?_
  refine lv_aload_n hx hb dX8_keepState_18 rfl (lv_at hl 1 rfl) ?_
  refine va_get (D := (dC, dI)) (ci := 8) (v := .ref (AM 2)) (C := RX8) (T := TX8) (N := 17) hx hb hts inw_X8_keepState_X8 hown hK hP 0 rfl rfl 2 (by decide) (hts (.fieldLink RX8 13 "DuelFramesModel" "s" "[I") (List.mem_of_getElem? (i := 2) rfl)) (fun _ h9 => h9) rfl dX8_keepState_19 ?_
  refine lv_iload_n hx hb dX8_keepState_22 rfl (lv_at hl 0 rfl) ?_
  refine va_iald hx hb hK hP 2 0 rfl rfl (vin rfl) dX8_keepState_23 ?_
  refine lv_topi (fun x_36 ex_36 => ?_)
  obtain rfl : x_36 = (sA 17) := ex_36
  refine va_iast hx hb hK hP hD hS 4 0 rfl rfl (kp_in hd5 (vin rfl)) dX8_keepState_24 (fun H locs hP1 hD1 hS1 => ?_)
  clear hP hD hS
  have hP : va_P (dC, dI) vwCl [(m0, .inr (8, mdL AM g)), (AM 0, .inl (cY 0, 72, .inl tb)), (AM 2, .inl (cY 0, 22, .inl sA)), (AM 3, .inl (cY 0, 22, .inl rd)), (AM 4, .inl (cY 0, 110, .inl (upd (upd (upd (upd (upd (upd (upd (upd (upd (upd (upd (upd (upd (upd (upd (upd (upd (upd kp ((22 * depth) + 0).toNatClampNeg (sA 0)) ((22 * depth) + 1).toNatClampNeg (sA 1)) ((22 * depth) + 2).toNatClampNeg (sA 2)) ((22 * depth) + 3).toNatClampNeg (sA 3)) ((22 * depth) + 4).toNatClampNeg (sA 4)) ((22 * depth) + 5).toNatClampNeg (sA 5)) ((22 * depth) + 6).toNatClampNeg (sA 6)) ((22 * depth) + 7).toNatClampNeg (sA 7)) ((22 * depth) + 8).toNatClampNeg (sA 8)) ((22 * depth) + 9).toNatClampNeg (sA 9)) ((22 * depth) + 10).toNatClampNeg (sA 10)) ((22 * depth) + 11).toNatClampNeg (sA 11)) ((22 * depth) + 12).toNatClampNeg (sA 12)) ((22 * depth) + 13).toNatClampNeg (sA 13)) ((22 * depth) + 14).toNatClampNeg (sA 14)) ((22 * depth) + 15).toNatClampNeg (sA 15)) ((22 * depth) + 16).toNatClampNeg (sA 16)) ((22 * depth) + 17).toNatClampNeg (sA 17)))), (AM 5, .inl (cY 0, 8414, .inl td)), (AM 6, .inl (cY 0, 2, .inl wn)), (AM 13, .inl (cY 0, 4, .inl rw)), (AM 14, .inl (cY 0, 4, .inl br))] H := hP1
  have hD : va_D A [(m0, .inr (8, mdL AM g)), (AM 0, .inl (cY 0, 72, .inl tb)), (AM 2, .inl (cY 0, 22, .inl sA)), (AM 3, .inl (cY 0, 22, .inl rd)), (AM 4, .inl (cY 0, 110, .inl (upd (upd (upd (upd (upd (upd (upd (upd (upd (upd (upd (upd (upd (upd (upd (upd (upd (upd kp ((22 * depth) + 0).toNatClampNeg (sA 0)) ((22 * depth) + 1).toNatClampNeg (sA 1)) ((22 * depth) + 2).toNatClampNeg (sA 2)) ((22 * depth) + 3).toNatClampNeg (sA 3)) ((22 * depth) + 4).toNatClampNeg (sA 4)) ((22 * depth) + 5).toNatClampNeg (sA 5)) ((22 * depth) + 6).toNatClampNeg (sA 6)) ((22 * depth) + 7).toNatClampNeg (sA 7)) ((22 * depth) + 8).toNatClampNeg (sA 8)) ((22 * depth) + 9).toNatClampNeg (sA 9)) ((22 * depth) + 10).toNatClampNeg (sA 10)) ((22 * depth) + 11).toNatClampNeg (sA 11)) ((22 * depth) + 12).toNatClampNeg (sA 12)) ((22 * depth) + 13).toNatClampNeg (sA 13)) ((22 * depth) + 14).toNatClampNeg (sA 14)) ((22 * depth) + 15).toNatClampNeg (sA 15)) ((22 * depth) + 16).toNatClampNeg (sA 16)) ((22 * depth) + 17).toNatClampNeg (sA 17)))), (AM 5, .inl (cY 0, 8414, .inl td)), (AM 6, .inl (cY 0, 2, .inl wn)), (AM 13, .inl (cY 0, 4, .inl rw)), (AM 14, .inl (cY 0, 4, .inl br))] := hD1
  have hS := hS1
  clear hP1 hD1 hS1
  refine lv_iinc (v := 18) (lv' := [(2, .int 18), (0, .ref m0), (1, .int depth)]) hx hb dX8_keepState_25 hl (k := 0) rfl (by first | rfl | decide) (by decide) rfl (fun ls hl => ?_)
  refine lv_goto (tgt := 2) hx hb dX8_keepState_28 (by decide) ?_
  refine lv_iload_n hx hb dX8_keepState_2 rfl (lv_at hl 0 rfl) ?_
  refine lv_bipush (v := 22) hx hb dX8_keepState_3 (by decide) ?_
  refine lv_icmp_ge (tgt := 31) hx hb dX8_keepState_5 (by decide) (fun c_37 => ?_) (fun c_37 => ?_)
  · exact absurd c_37 (by decide)
  refine lv_aload_n hx hb dX8_keepState_8 rfl (lv_at hl 1 rfl) ?_
  refine va_get (D := (dC, dI)) (ci := 8) (v := .ref (AM 4)) (C := RX8) (T := TX8) (N := 17) hx hb hts inw_X8_keepState_X8 hown hK hP 0 rfl rfl 4 (by decide) (hts (.fieldLink RX8 19 "DuelFramesModel" "kept" "[I") (List.mem_of_getElem? (i := 1) rfl)) (fun _ h9 => h9) rfl dX8_keepState_9 ?_
  refine lv_bipush (v := 22) hx hb dX8_keepState_12 (by decide) ?_
  refine lv_iload_n hx hb dX8_keepState_14 rfl (lv_at hl 2 rfl) ?_
  refine lv_imul hx hb dX8_keepState_15 ?_
  refine lv_iload_n hx hb dX8_keepState_16 rfl (lv_at hl 0 rfl) ?_
  refine lv_iadd hx hb dX8_keepState_17 ?_
  refine lv_aload_n hx hb dX8_keepState_18 rfl (lv_at hl 1 rfl) ?_
  refine va_get (D := (dC, dI)) (ci := 8) (v := .ref (AM 2)) (C := RX8) (T := TX8) (N := 17) hx hb hts inw_X8_keepState_X8 hown hK hP 0 rfl rfl 2 (by decide) (hts (.fieldLink RX8 13 "DuelFramesModel" "s" "[I") (List.mem_of_getElem? (i := 2) rfl)) (fun _ h9 => h9) rfl dX8_keepState_19 ?_
  refine lv_iload_n hx hb dX8_keepState_22 rfl (lv_at hl 0 rfl) ?_
  refine va_iald hx hb hK hP 2 0 rfl rfl (vin rfl) dX8_keepState_23 ?_
  refine lv_topi (fun x_38 ex_38 => ?_)
  obtain rfl : x_38 = (sA 18) := ex_38
  refine va_iast hx hb hK hP hD hS 4 0 rfl rfl (kp_in hd5 (vin rfl)) dX8_keepState_24 (fun H locs hP1 hD1 hS1 => ?_)
  clear hP hD hS
  have hP : va_P (dC, dI) vwCl [(m0, .inr (8, mdL AM g)), (AM 0, .inl (cY 0, 72, .inl tb)), (AM 2, .inl (cY 0, 22, .inl sA)), (AM 3, .inl (cY 0, 22, .inl rd)), (AM 4, .inl (cY 0, 110, .inl (upd (upd (upd (upd (upd (upd (upd (upd (upd (upd (upd (upd (upd (upd (upd (upd (upd (upd (upd kp ((22 * depth) + 0).toNatClampNeg (sA 0)) ((22 * depth) + 1).toNatClampNeg (sA 1)) ((22 * depth) + 2).toNatClampNeg (sA 2)) ((22 * depth) + 3).toNatClampNeg (sA 3)) ((22 * depth) + 4).toNatClampNeg (sA 4)) ((22 * depth) + 5).toNatClampNeg (sA 5)) ((22 * depth) + 6).toNatClampNeg (sA 6)) ((22 * depth) + 7).toNatClampNeg (sA 7)) ((22 * depth) + 8).toNatClampNeg (sA 8)) ((22 * depth) + 9).toNatClampNeg (sA 9)) ((22 * depth) + 10).toNatClampNeg (sA 10)) ((22 * depth) + 11).toNatClampNeg (sA 11)) ((22 * depth) + 12).toNatClampNeg (sA 12)) ((22 * depth) + 13).toNatClampNeg (sA 13)) ((22 * depth) + 14).toNatClampNeg (sA 14)) ((22 * depth) + 15).toNatClampNeg (sA 15)) ((22 * depth) + 16).toNatClampNeg (sA 16)) ((22 * depth) + 17).toNatClampNeg (sA 17)) ((22 * depth) + 18).toNatClampNeg (sA 18)))), (AM 5, .inl (cY 0, 8414, .inl td)), (AM 6, .inl (cY 0, 2, .inl wn)), (AM 13, .inl (cY 0, 4, .inl rw)), (AM 14, .inl (cY 0, 4, .inl br))] H := hP1
  have hD : va_D A [(m0, .inr (8, mdL AM g)), (AM 0, .inl (cY 0, 72, .inl tb)), (AM 2, .inl (cY 0, 22, .inl sA)), (AM 3, .inl (cY 0, 22, .inl rd)), (AM 4, .inl (cY 0, 110, .inl (upd (upd (upd (upd (upd (upd (upd (upd (upd (upd (upd (upd (upd (upd (upd (upd (upd (upd (upd kp ((22 * depth) + 0).toNatClampNeg (sA 0)) ((22 * depth) + 1).toNatClampNeg (sA 1)) ((22 * depth) + 2).toNatClampNeg (sA 2)) ((22 * depth) + 3).toNatClampNeg (sA 3)) ((22 * depth) + 4).toNatClampNeg (sA 4)) ((22 * depth) + 5).toNatClampNeg (sA 5)) ((22 * depth) + 6).toNatClampNeg (sA 6)) ((22 * depth) + 7).toNatClampNeg (sA 7)) ((22 * depth) + 8).toNatClampNeg (sA 8)) ((22 * depth) + 9).toNatClampNeg (sA 9)) ((22 * depth) + 10).toNatClampNeg (sA 10)) ((22 * depth) + 11).toNatClampNeg (sA 11)) ((22 * depth) + 12).toNatClampNeg (sA 12)) ((22 * depth) + 13).toNatClampNeg (sA 13)) ((22 * depth) + 14).toNatClampNeg (sA 14)) ((22 * depth) + 15).toNatClampNeg (sA 15)) ((22 * depth) + 16).toNatClampNeg (sA 16)) ((22 * depth) + 17).toNatClampNeg (sA 17)) ((22 * depth) + 18).toNatClampNeg (sA 18)))), (AM 5, .inl (cY 0, 8414, .inl td)), (AM 6, .inl (cY 0, 2, .inl wn)), (AM 13, .inl (cY 0, 4, .inl rw)), (AM 14, .inl (cY 0, 4, .inl br))] := hD1
  have hS := hS1
  clear hP1 hD1 hS1
  refine lv_iinc (v := 19) (lv' := [(2, .int 19), (0, .ref m0), (1, .int depth)]) hx hb dX8_keepState_25 hl (k := 0) rfl (by first | rfl | decide) (by decide) rfl (fun ls hl => ?_)
  refine lv_goto (tgt := 2) hx hb dX8_keepState_28 (by decide) ?_
  refine lv_iload_n hx hb dX8_keepState_2 rfl (lv_at hl 0 rfl) ?_
  refine lv_bipush (v := 22) hx hb dX8_keepState_3 (by decide) ?_
  refine lv_icmp_ge (tgt := 31) hx hb dX8_keepState_5 (by decide) (fun c_39 => ?_) (fun c_39 => ?_)
  · exact absurd c_39 (by decide)
  refine lv_aload_n hx hb dX8_keepState_8 rfl (lv_at hl 1 rfl) ?_
  refine va_get (D := (dC, dI)) (ci := 8) (v := .ref (AM 4)) (C := RX8) (T := TX8) (N := 17) hx hb hts inw_X8_keepState_X8 hown hK hP 0 rfl rfl 4 (by decide) (hts (.fieldLink RX8 19 "DuelFramesModel" "kept" "[I") (List.mem_of_getElem? (i := 1) rfl)) (fun _ h9 => h9) rfl dX8_keepState_9 ?_
  refine lv_bipush (v := 22) hx hb dX8_keepState_12 (by decide) ?_
  refine lv_iload_n hx hb dX8_keepState_14 rfl (lv_at hl 2 rfl) ?_
  refine lv_imul hx hb dX8_keepState_15 ?_
  refine lv_iload_n hx hb dX8_keepState_16 rfl (lv_at hl 0 rfl) ?_
  refine lv_iadd hx hb dX8_keepState_17 ?_
  refine lv_aload_n hx hb dX8_keepState_18 rfl (lv_at hl 1 rfl) ?_
  refine va_get (D := (dC, dI)) (ci := 8) (v := .ref (AM 2)) (C := RX8) (T := TX8) (N := 17) hx hb hts inw_X8_keepState_X8 hown hK hP 0 rfl rfl 2 (by decide) (hts (.fieldLink RX8 13 "DuelFramesModel" "s" "[I") (List.mem_of_getElem? (i := 2) rfl)) (fun _ h9 => h9) rfl dX8_keepState_19 ?_
  refine lv_iload_n hx hb dX8_keepState_22 rfl (lv_at hl 0 rfl) ?_
  refine va_iald hx hb hK hP 2 0 rfl rfl (vin rfl) dX8_keepState_23 ?_
  refine lv_topi (fun x_40 ex_40 => ?_)
  obtain rfl : x_40 = (sA 19) := ex_40
  refine va_iast hx hb hK hP hD hS 4 0 rfl rfl (kp_in hd5 (vin rfl)) dX8_keepState_24 (fun H locs hP1 hD1 hS1 => ?_)
  clear hP hD hS
  have hP : va_P (dC, dI) vwCl [(m0, .inr (8, mdL AM g)), (AM 0, .inl (cY 0, 72, .inl tb)), (AM 2, .inl (cY 0, 22, .inl sA)), (AM 3, .inl (cY 0, 22, .inl rd)), (AM 4, .inl (cY 0, 110, .inl (upd (upd (upd (upd (upd (upd (upd (upd (upd (upd (upd (upd (upd (upd (upd (upd (upd (upd (upd (upd kp ((22 * depth) + 0).toNatClampNeg (sA 0)) ((22 * depth) + 1).toNatClampNeg (sA 1)) ((22 * depth) + 2).toNatClampNeg (sA 2)) ((22 * depth) + 3).toNatClampNeg (sA 3)) ((22 * depth) + 4).toNatClampNeg (sA 4)) ((22 * depth) + 5).toNatClampNeg (sA 5)) ((22 * depth) + 6).toNatClampNeg (sA 6)) ((22 * depth) + 7).toNatClampNeg (sA 7)) ((22 * depth) + 8).toNatClampNeg (sA 8)) ((22 * depth) + 9).toNatClampNeg (sA 9)) ((22 * depth) + 10).toNatClampNeg (sA 10)) ((22 * depth) + 11).toNatClampNeg (sA 11)) ((22 * depth) + 12).toNatClampNeg (sA 12)) ((22 * depth) + 13).toNatClampNeg (sA 13)) ((22 * depth) + 14).toNatClampNeg (sA 14)) ((22 * depth) + 15).toNatClampNeg (sA 15)) ((22 * depth) + 16).toNatClampNeg (sA 16)) ((22 * depth) + 17).toNatClampNeg (sA 17)) ((22 * depth) + 18).toNatClampNeg (sA 18)) ((22 * depth) + 19).toNatClampNeg (sA 19)))), (AM 5, .inl (cY 0, 8414, .inl td)), (AM 6, .inl (cY 0, 2, .inl wn)), (AM 13, .inl (cY 0, 4, .inl rw)), (AM 14, .inl (cY 0, 4, .inl br))] H := hP1
  have hD : va_D A [(m0, .inr (8, mdL AM g)), (AM 0, .inl (cY 0, 72, .inl tb)), (AM 2, .inl (cY 0, 22, .inl sA)), (AM 3, .inl (cY 0, 22, .inl rd)), (AM 4, .inl (cY 0, 110, .inl (upd (upd (upd (upd (upd (upd (upd (upd (upd (upd (upd (upd (upd (upd (upd (upd (upd (upd (upd (upd kp ((22 * depth) + 0).toNatClampNeg (sA 0)) ((22 * depth) + 1).toNatClampNeg (sA 1)) ((22 * depth) + 2).toNatClampNeg (sA 2)) ((22 * depth) + 3).toNatClampNeg (sA 3)) ((22 * depth) + 4).toNatClampNeg (sA 4)) ((22 * depth) + 5).toNatClampNeg (sA 5)) ((22 * depth) + 6).toNatClampNeg (sA 6)) ((22 * depth) + 7).toNatClampNeg (sA 7)) ((22 * depth) + 8).toNatClampNeg (sA 8)) ((22 * depth) + 9).toNatClampNeg (sA 9)) ((22 * depth) + 10).toNatClampNeg (sA 10)) ((22 * depth) + 11).toNatClampNeg (sA 11)) ((22 * depth) + 12).toNatClampNeg (sA 12)) ((22 * depth) + 13).toNatClampNeg (sA 13)) ((22 * depth) + 14).toNatClampNeg (sA 14)) ((22 * depth) + 15).toNatClampNeg (sA 15)) ((22 * depth) + 16).toNatClampNeg (sA 16)) ((22 * depth) + 17).toNatClampNeg (sA 17)) ((22 * depth) + 18).toNatClampNeg (sA 18)) ((22 * depth) + 19).toNatClampNeg (sA 19)))), (AM 5, .inl (cY 0, 8414, .inl td)), (AM 6, .inl (cY 0, 2, .inl wn)), (AM 13, .inl (cY 0, 4, .inl rw)), (AM 14, .inl (cY 0, 4, .inl br))] := hD1
  have hS := hS1
  clear hP1 hD1 hS1
  refine lv_iinc (v := 20) (lv' := [(2, .int 20), (0, .ref m0), (1, .int depth)]) hx hb dX8_keepState_25 hl (k := 0) rfl (by first | rfl | decide) (by decide) rfl (fun ls hl => ?_)
  refine lv_goto (tgt := 2) hx hb dX8_keepState_28 (by decide) ?_
  refine lv_iload_n hx hb dX8_keepState_2 rfl (lv_at hl 0 rfl) ?_
  refine lv_bipush (v := 22) hx hb dX8_keepState_3 (by decide) ?_
  refine lv_icmp_ge (tgt := 31) hx hb dX8_keepState_5 (by decide) (fun c_41 => ?_) (fun c_41 => ?_)
  · exact absurd c_41 (by decide)
  refine lv_aload_n hx hb dX8_keepState_8 rfl (lv_at hl 1 rfl) ?_
  refine va_get (D := (dC, dI)) (ci := 8) (v := .ref (AM 4)) (C := RX8) (T := TX8) (N := 17) hx hb hts inw_X8_keepState_X8 hown hK hP 0 rfl rfl 4 (by decide) (hts (.fieldLink RX8 19 "DuelFramesModel" "kept" "[I") (List.mem_of_getElem? (i := 1) rfl)) (fun _ h9 => h9) rfl dX8_keepState_9 ?_
  refine lv_bipush (v := 22) hx hb dX8_keepState_12 (by decide) ?_
  refine lv_iload_n hx hb dX8_keepState_14 rfl (lv_at hl 2 rfl) ?_
  refine lv_imul hx hb dX8_keepState_15 ?_
  refine lv_iload_n hx hb dX8_keepState_16 rfl (lv_at hl 0 rfl) ?_
  refine lv_iadd hx hb dX8_keepState_17 ?_
  refine lv_aload_n hx hb dX8_keepState_18 rfl (lv_at hl 1 rfl) ?_
  refine va_get (D := (dC, dI)) (ci := 8) (v := .ref (AM 2)) (C := RX8) (T := TX8) (N := 17) hx hb hts inw_X8_keepState_X8 hown hK hP 0 rfl rfl 2 (by decide) (hts (.fieldLink RX8 13 "DuelFramesModel" "s" "[I") (List.mem_of_getElem? (i := 2) rfl)) (fun _ h9 => h9) rfl dX8_keepState_19 ?_
  refine lv_iload_n hx hb dX8_keepState_22 rfl (lv_at hl 0 rfl) ?_
  refine va_iald hx hb hK hP 2 0 rfl rfl (vin rfl) dX8_keepState_23 ?_
  refine lv_topi (fun x_42 ex_42 => ?_)
  obtain rfl : x_42 = (sA 20) := ex_42
  refine va_iast hx hb hK hP hD hS 4 0 rfl rfl (kp_in hd5 (vin rfl)) dX8_keepState_24 (fun H locs hP1 hD1 hS1 => ?_)
  clear hP hD hS
  have hP : va_P (dC, dI) vwCl [(m0, .inr (8, mdL AM g)), (AM 0, .inl (cY 0, 72, .inl tb)), (AM 2, .inl (cY 0, 22, .inl sA)), (AM 3, .inl (cY 0, 22, .inl rd)), (AM 4, .inl (cY 0, 110, .inl (upd (upd (upd (upd (upd (upd (upd (upd (upd (upd (upd (upd (upd (upd (upd (upd (upd (upd (upd (upd (upd kp ((22 * depth) + 0).toNatClampNeg (sA 0)) ((22 * depth) + 1).toNatClampNeg (sA 1)) ((22 * depth) + 2).toNatClampNeg (sA 2)) ((22 * depth) + 3).toNatClampNeg (sA 3)) ((22 * depth) + 4).toNatClampNeg (sA 4)) ((22 * depth) + 5).toNatClampNeg (sA 5)) ((22 * depth) + 6).toNatClampNeg (sA 6)) ((22 * depth) + 7).toNatClampNeg (sA 7)) ((22 * depth) + 8).toNatClampNeg (sA 8)) ((22 * depth) + 9).toNatClampNeg (sA 9)) ((22 * depth) + 10).toNatClampNeg (sA 10)) ((22 * depth) + 11).toNatClampNeg (sA 11)) ((22 * depth) + 12).toNatClampNeg (sA 12)) ((22 * depth) + 13).toNatClampNeg (sA 13)) ((22 * depth) + 14).toNatClampNeg (sA 14)) ((22 * depth) + 15).toNatClampNeg (sA 15)) ((22 * depth) + 16).toNatClampNeg (sA 16)) ((22 * depth) + 17).toNatClampNeg (sA 17)) ((22 * depth) + 18).toNatClampNeg (sA 18)) ((22 * depth) + 19).toNatClampNeg (sA 19)) ((22 * depth) + 20).toNatClampNeg (sA 20)))), (AM 5, .inl (cY 0, 8414, .inl td)), (AM 6, .inl (cY 0, 2, .inl wn)), (AM 13, .inl (cY 0, 4, .inl rw)), (AM 14, .inl (cY 0, 4, .inl br))] H := hP1
  have hD : va_D A [(m0, .inr (8, mdL AM g)), (AM 0, .inl (cY 0, 72, .inl tb)), (AM 2, .inl (cY 0, 22, .inl sA)), (AM 3, .inl (cY 0, 22, .inl rd)), (AM 4, .inl (cY 0, 110, .inl (upd (upd (upd (upd (upd (upd (upd (upd (upd (upd (upd (upd (upd (upd (upd (upd (upd (upd (upd (upd (upd kp ((22 * depth) + 0).toNatClampNeg (sA 0)) ((22 * depth) + 1).toNatClampNeg (sA 1)) ((22 * depth) + 2).toNatClampNeg (sA 2)) ((22 * depth) + 3).toNatClampNeg (sA 3)) ((22 * depth) + 4).toNatClampNeg (sA 4)) ((22 * depth) + 5).toNatClampNeg (sA 5)) ((22 * depth) + 6).toNatClampNeg (sA 6)) ((22 * depth) + 7).toNatClampNeg (sA 7)) ((22 * depth) + 8).toNatClampNeg (sA 8)) ((22 * depth) + 9).toNatClampNeg (sA 9)) ((22 * depth) + 10).toNatClampNeg (sA 10)) ((22 * depth) + 11).toNatClampNeg (sA 11)) ((22 * depth) + 12).toNatClampNeg (sA 12)) ((22 * depth) + 13).toNatClampNeg (sA 13)) ((22 * depth) + 14).toNatClampNeg (sA 14)) ((22 * depth) + 15).toNatClampNeg (sA 15)) ((22 * depth) + 16).toNatClampNeg (sA 16)) ((22 * depth) + 17).toNatClampNeg (sA 17)) ((22 * depth) + 18).toNatClampNeg (sA 18)) ((22 * depth) + 19).toNatClampNeg (sA 19)) ((22 * depth) + 20).toNatClampNeg (sA 20)))), (AM 5, .inl (cY 0, 8414, .inl td)), (AM 6, .inl (cY 0, 2, .inl wn)), (AM 13, .inl (cY 0, 4, .inl rw)), (AM 14, .inl (cY 0, 4, .inl br))] := hD1
  have hS := hS1
  clear hP1 hD1 hS1
  refine lv_iinc (v := 21) (lv' := [(2, .int 21), (0, .ref m0), (1, .int depth)]) hx hb dX8_keepState_25 hl (k := 0) rfl (by first | rfl | decide) (by decide) rfl (fun ls hl => ?_)
  refine lv_goto (tgt := 2) hx hb dX8_keepState_28 (by decide) ?_
  refine lv_iload_n hx hb dX8_keepState_2 rfl (lv_at hl 0 rfl) ?_
  refine lv_bipush (v := 22) hx hb dX8_keepState_3 (by decide) ?_
  refine lv_icmp_ge (tgt := 31) hx hb dX8_keepState_5 (by decide) (fun c_43 => ?_) (fun c_43 => ?_)
  · exact absurd c_43 (by decide)
  refine lv_aload_n hx hb dX8_keepState_8 rfl (lv_at hl 1 rfl) ?_
  refine va_get (D := (dC, dI)) (ci := 8) (v := .ref (AM 4)) (C := RX8) (T := TX8) (N := 17) hx hb hts inw_X8_keepState_X8 hown hK hP 0 rfl rfl 4 (by decide) (hts (.fieldLink RX8 19 "DuelFramesModel" "kept" "[I") (List.mem_of_getElem? (i := 1) rfl)) (fun _ h9 => h9) rfl dX8_keepState_9 ?_
  refine lv_bipush (v := 22) hx hb dX8_keepState_12 (by decide) ?_
  refine lv_iload_n hx hb dX8_keepState_14 rfl (lv_at hl 2 rfl) ?_
  refine lv_imul hx hb dX8_keepState_15 ?_
  refine lv_iload_n hx hb dX8_keepState_16 rfl (lv_at hl 0 rfl) ?_
  refine lv_iadd hx hb dX8_keepState_17 ?_
  refine lv_aload_n hx hb dX8_keepState_18 rfl (lv_at hl 1 rfl) ?_
  refine va_get (D := (dC, dI)) (ci := 8) (v := .ref (AM 2)) (C := RX8) (T := TX8) (N := 17) hx hb hts inw_X8_keepState_X8 hown hK hP 0 rfl rfl 2 (by decide) (hts (.fieldLink RX8 13 "DuelFramesModel" "s" "[I") (List.mem_of_getElem? (i := 2) rfl)) (fun _ h9 => h9) rfl dX8_keepState_19 ?_
  refine lv_iload_n hx hb dX8_keepState_22 rfl (lv_at hl 0 rfl) ?_
  refine va_iald hx hb hK hP 2 0 rfl rfl (vin rfl) dX8_keepState_23 ?_
  refine lv_topi (fun x_44 ex_44 => ?_)
  obtain rfl : x_44 = (sA 21) := ex_44
  refine va_iast hx hb hK hP hD hS 4 0 rfl rfl (kp_in hd5 (vin rfl)) dX8_keepState_24 (fun H locs hP1 hD1 hS1 => ?_)
  clear hP hD hS
  have hP : va_P (dC, dI) vwCl [(m0, .inr (8, mdL AM g)), (AM 0, .inl (cY 0, 72, .inl tb)), (AM 2, .inl (cY 0, 22, .inl sA)), (AM 3, .inl (cY 0, 22, .inl rd)), (AM 4, .inl (cY 0, 110, .inl (upd (upd (upd (upd (upd (upd (upd (upd (upd (upd (upd (upd (upd (upd (upd (upd (upd (upd (upd (upd (upd (upd kp ((22 * depth) + 0).toNatClampNeg (sA 0)) ((22 * depth) + 1).toNatClampNeg (sA 1)) ((22 * depth) + 2).toNatClampNeg (sA 2)) ((22 * depth) + 3).toNatClampNeg (sA 3)) ((22 * depth) + 4).toNatClampNeg (sA 4)) ((22 * depth) + 5).toNatClampNeg (sA 5)) ((22 * depth) + 6).toNatClampNeg (sA 6)) ((22 * depth) + 7).toNatClampNeg (sA 7)) ((22 * depth) + 8).toNatClampNeg (sA 8)) ((22 * depth) + 9).toNatClampNeg (sA 9)) ((22 * depth) + 10).toNatClampNeg (sA 10)) ((22 * depth) + 11).toNatClampNeg (sA 11)) ((22 * depth) + 12).toNatClampNeg (sA 12)) ((22 * depth) + 13).toNatClampNeg (sA 13)) ((22 * depth) + 14).toNatClampNeg (sA 14)) ((22 * depth) + 15).toNatClampNeg (sA 15)) ((22 * depth) + 16).toNatClampNeg (sA 16)) ((22 * depth) + 17).toNatClampNeg (sA 17)) ((22 * depth) + 18).toNatClampNeg (sA 18)) ((22 * depth) + 19).toNatClampNeg (sA 19)) ((22 * depth) + 20).toNatClampNeg (sA 20)) ((22 * depth) + 21).toNatClampNeg (sA 21)))), (AM 5, .inl (cY 0, 8414, .inl td)), (AM 6, .inl (cY 0, 2, .inl wn)), (AM 13, .inl (cY 0, 4, .inl rw)), (AM 14, .inl (cY 0, 4, .inl br))] H := hP1
  have hD : va_D A [(m0, .inr (8, mdL AM g)), (AM 0, .inl (cY 0, 72, .inl tb)), (AM 2, .inl (cY 0, 22, .inl sA)), (AM 3, .inl (cY 0, 22, .inl rd)), (AM 4, .inl (cY 0, 110, .inl (upd (upd (upd (upd (upd (upd (upd (upd (upd (upd (upd (upd (upd (upd (upd (upd (upd (upd (upd (upd (upd (upd kp ((22 * depth) + 0).toNatClampNeg (sA 0)) ((22 * depth) + 1).toNatClampNeg (sA 1)) ((22 * depth) + 2).toNatClampNeg (sA 2)) ((22 * depth) + 3).toNatClampNeg (sA 3)) ((22 * depth) + 4).toNatClampNeg (sA 4)) ((22 * depth) + 5).toNatClampNeg (sA 5)) ((22 * depth) + 6).toNatClampNeg (sA 6)) ((22 * depth) + 7).toNatClampNeg (sA 7)) ((22 * depth) + 8).toNatClampNeg (sA 8)) ((22 * depth) + 9).toNatClampNeg (sA 9)) ((22 * depth) + 10).toNatClampNeg (sA 10)) ((22 * depth) + 11).toNatClampNeg (sA 11)) ((22 * depth) + 12).toNatClampNeg (sA 12)) ((22 * depth) + 13).toNatClampNeg (sA 13)) ((22 * depth) + 14).toNatClampNeg (sA 14)) ((22 * depth) + 15).toNatClampNeg (sA 15)) ((22 * depth) + 16).toNatClampNeg (sA 16)) ((22 * depth) + 17).toNatClampNeg (sA 17)) ((22 * depth) + 18).toNatClampNeg (sA 18)) ((22 * depth) + 19).toNatClampNeg (sA 19)) ((22 * depth) + 20).toNatClampNeg (sA 20)) ((22 * depth) + 21).toNatClampNeg (sA 21)))), (AM 5, .inl (cY 0, 8414, .inl td)), (AM 6, .inl (cY 0, 2, .inl wn)), (AM 13, .inl (cY 0, 4, .inl rw)), (AM 14, .inl (cY 0, 4, .inl br))] := hD1
  have hS := hS1
  clear hP1 hD1 hS1
  refine lv_iinc (v := 22) (lv' := [(2, .int 22), (0, .ref m0), (1, .int depth)]) hx hb dX8_keepState_25 hl (k := 0) rfl (by first | rfl | decide) (by decide) rfl (fun ls hl => ?_)
  refine lv_goto (tgt := 2) hx hb dX8_keepState_28 (by decide) ?_
  refine lv_iload_n hx hb dX8_keepState_2 rfl (lv_at hl 0 rfl) ?_
  refine lv_bipush (v := 22) hx hb dX8_keepState_3 (by decide) ?_
  refine lv_icmp_ge (tgt := 31) hx hb dX8_keepState_5 (by decide) (fun c_45 => ?_) (fun c_45 => ?_)
  rotate_left
  · exact absurd (by decide) c_45
  have eo_46 : (X8_keepState_w4 sA kp depth) = (upd (upd (upd (upd (upd (upd (upd (upd (upd (upd (upd (upd (upd (upd (upd (upd (upd (upd (upd (upd (upd (upd kp ((22 * depth) + 0).toNatClampNeg (sA 0)) ((22 * depth) + 1).toNatClampNeg (sA 1)) ((22 * depth) + 2).toNatClampNeg (sA 2)) ((22 * depth) + 3).toNatClampNeg (sA 3)) ((22 * depth) + 4).toNatClampNeg (sA 4)) ((22 * depth) + 5).toNatClampNeg (sA 5)) ((22 * depth) + 6).toNatClampNeg (sA 6)) ((22 * depth) + 7).toNatClampNeg (sA 7)) ((22 * depth) + 8).toNatClampNeg (sA 8)) ((22 * depth) + 9).toNatClampNeg (sA 9)) ((22 * depth) + 10).toNatClampNeg (sA 10)) ((22 * depth) + 11).toNatClampNeg (sA 11)) ((22 * depth) + 12).toNatClampNeg (sA 12)) ((22 * depth) + 13).toNatClampNeg (sA 13)) ((22 * depth) + 14).toNatClampNeg (sA 14)) ((22 * depth) + 15).toNatClampNeg (sA 15)) ((22 * depth) + 16).toNatClampNeg (sA 16)) ((22 * depth) + 17).toNatClampNeg (sA 17)) ((22 * depth) + 18).toNatClampNeg (sA 18)) ((22 * depth) + 19).toNatClampNeg (sA 19)) ((22 * depth) + 20).toNatClampNeg (sA 20)) ((22 * depth) + 21).toNatClampNeg (sA 21)) := by rw [X8_keepState_w4]
  have hP9 : va_P (dC, dI) vwCl [(m0, .inr (8, mdL AM g)), (AM 0, .inl (cY 0, 72, .inl tb)), (AM 2, .inl (cY 0, 22, .inl sA)), (AM 3, .inl (cY 0, 22, .inl rd)), (AM 4, .inl (cY 0, 110, .inl (X8_keepState_w4 sA kp depth))), (AM 5, .inl (cY 0, 8414, .inl td)), (AM 6, .inl (cY 0, 2, .inl wn)), (AM 13, .inl (cY 0, 4, .inl rw)), (AM 14, .inl (cY 0, 4, .inl br))] H := by simp only [eo_46]; exact hP
  have hD9 : va_D A [(m0, .inr (8, mdL AM g)), (AM 0, .inl (cY 0, 72, .inl tb)), (AM 2, .inl (cY 0, 22, .inl sA)), (AM 3, .inl (cY 0, 22, .inl rd)), (AM 4, .inl (cY 0, 110, .inl (X8_keepState_w4 sA kp depth))), (AM 5, .inl (cY 0, 8414, .inl td)), (AM 6, .inl (cY 0, 2, .inl wn)), (AM 13, .inl (cY 0, 4, .inl rw)), (AM 14, .inl (cY 0, 4, .inl br))] := by simp only [eo_46]; exact hD
  exact W.vret hx hb hr (fun t ht hW => ⟨⟨(), rfl, trivial, wPost_of hP9 hD9 ht⟩, hS.F ht⟩) hS.2.2 dX8_keepState_31
theorem inw_X8_fetch_X8 : ∀ w ∈ u_ws RX8 TX8 17, w ∈ wsX8_fetch := fun _ h => List.mem_cons_of_mem _ (List.mem_append_right _ h)
def X8_fetch_w2 (sA : Nat → Int32) (kp : Nat → Int32) (depth : Int32) : Nat → Int32 := (upd (upd (upd (upd (upd (upd (upd (upd (upd (upd (upd (upd (upd (upd (upd (upd (upd (upd (upd (upd (upd (upd sA 0 (kp ((22 * depth) + 0).toNatClampNeg)) 1 (kp ((22 * depth) + 1).toNatClampNeg)) 2 (kp ((22 * depth) + 2).toNatClampNeg)) 3 (kp ((22 * depth) + 3).toNatClampNeg)) 4 (kp ((22 * depth) + 4).toNatClampNeg)) 5 (kp ((22 * depth) + 5).toNatClampNeg)) 6 (kp ((22 * depth) + 6).toNatClampNeg)) 7 (kp ((22 * depth) + 7).toNatClampNeg)) 8 (kp ((22 * depth) + 8).toNatClampNeg)) 9 (kp ((22 * depth) + 9).toNatClampNeg)) 10 (kp ((22 * depth) + 10).toNatClampNeg)) 11 (kp ((22 * depth) + 11).toNatClampNeg)) 12 (kp ((22 * depth) + 12).toNatClampNeg)) 13 (kp ((22 * depth) + 13).toNatClampNeg)) 14 (kp ((22 * depth) + 14).toNatClampNeg)) 15 (kp ((22 * depth) + 15).toNatClampNeg)) 16 (kp ((22 * depth) + 16).toNatClampNeg)) 17 (kp ((22 * depth) + 17).toNatClampNeg)) 18 (kp ((22 * depth) + 18).toNatClampNeg)) 19 (kp ((22 * depth) + 19).toNatClampNeg)) 20 (kp ((22 * depth) + 20).toNatClampNeg)) 21 (kp ((22 * depth) + 21).toNatClampNeg))
set_option maxHeartbeats 4000000 in
set_option maxRecDepth 100000 in
theorem c_X8_fetch (l : Launch) (dC : Nat → ClassId) (dI : Nat → Nat → Nat) (cY : Nat → ClassId) (m0 : Nat) (AM : Nat → Nat) (g : Nat → Int32) (tb : Nat → Int32) (sA : Nat → Int32) (rd : Nat → Int32) (kp : Nat → Int32) (td : Nat → Int32) (wn : Nat → Int32) (rw : Nat → Int32) (br : Nat → Int32) (depth : Int32) (hd5 : vp_in depth 5) (sz : Nat) : Met l yX8_fetch wsX8_fetch ({ frames := 0, cells := 0, slots := 0, locals := 0 } : Room) (va_Pc [.ref m0, .int depth] (wPre (dC, dI) (tyL cY) [(m0, .inr (8, mdL AM g)), (AM 0, .inl (cY 0, 72, .inl tb)), (AM 2, .inl (cY 0, 22, .inl sA)), (AM 3, .inl (cY 0, 22, .inl rd)), (AM 4, .inl (cY 0, 110, .inl kp)), (AM 5, .inl (cY 0, 8414, .inl td)), (AM 6, .inl (cY 0, 2, .inl wn)), (AM 13, .inl (cY 0, 4, .inl rw)), (AM 14, .inl (cY 0, 4, .inl br))] sz)) (va_Qv (fun _ : Unit => True) (wPost (dC, dI) [(m0, .inr (8, mdL AM g)), (AM 0, .inl (cY 0, 72, .inl tb)), (AM 2, .inl (cY 0, 22, .inl (X8_fetch_w2 sA kp depth))), (AM 3, .inl (cY 0, 22, .inl rd)), (AM 4, .inl (cY 0, 110, .inl kp)), (AM 5, .inl (cY 0, 8414, .inl td)), (AM 6, .inl (cY 0, 2, .inl wn)), (AM 13, .inl (cY 0, 4, .inl rw)), (AM 14, .inl (cY 0, 4, .inl br))] (va_A [(m0, .inr (8, mdL AM g)), (AM 0, .inl (cY 0, 72, .inl tb)), (AM 2, .inl (cY 0, 22, .inl sA)), (AM 3, .inl (cY 0, 22, .inl rd)), (AM 4, .inl (cY 0, 110, .inl kp)), (AM 5, .inl (cY 0, 8414, .inl td)), (AM 6, .inl (cY 0, 2, .inl wn)), (AM 13, .inl (cY 0, 4, .inl rw)), (AM 14, .inl (cY 0, 4, .inl br))] sz)) (va_A [(m0, .inr (8, mdL AM g)), (AM 0, .inl (cY 0, 72, .inl tb)), (AM 2, .inl (cY 0, 22, .inl sA)), (AM 3, .inl (cY 0, 22, .inl rd)), (AM 4, .inl (cY 0, 110, .inl kp)), (AM 5, .inl (cY 0, 8414, .inl td)), (AM 6, .inl (cY 0, 2, .inl wn)), (AM 13, .inl (cY 0, 4, .inl rw)), (AM 14, .inl (cY 0, 4, .inl br))] sz)) 0 0 (va_A [(m0, .inr (8, mdL AM g)), (AM 0, .inl (cY 0, 72, .inl tb)), (AM 2, .inl (cY 0, 22, .inl sA)), (AM 3, .inl (cY 0, 22, .inl rd)), (AM 4, .inl (cY 0, 110, .inl kp)), (AM 5, .inl (cY 0, 8414, .inl td)), (AM 6, .inl (cY 0, 2, .inl wn)), (AM 13, .inl (cY 0, 4, .inl rw)), (AM 14, .inl (cY 0, 4, .inl br))] sz) := by
  refine Met.ofW (cc := cX8_fetch) (maxL := 3) (ret := none) (by decide) rfl ?_
  intro p e s m args below meth c s₁ B hml hv
  obtain ⟨rfl, hsz, hP, hK, hN, hD0⟩ := hv
  have hx := B.exec
  have hb := B.bytes
  have hr := B.returns
  have hts := atoms_spec (ws := wsX8_fetch) B.pre
  have hown : s.vm.findClass RX8 = some m.cls := findClass_of_methodNamed B.named
  have hlocks := B.notSynchronized
  subst hsz
  have hD := hD0.self (sz := s.heap.size)
  generalize hAe : va_A [(m0, .inr (8, mdL AM g)), (AM 0, .inl (cY 0, 72, .inl tb)), (AM 2, .inl (cY 0, 22, .inl sA)), (AM 3, .inl (cY 0, 22, .inl rd)), (AM 4, .inl (cY 0, 110, .inl kp)), (AM 5, .inl (cY 0, 8414, .inl td)), (AM 6, .inl (cY 0, 2, .inl wn)), (AM 13, .inl (cY 0, 4, .inl rw)), (AM 14, .inl (cY 0, 4, .inl br))] s.heap.size = A at hD ⊢
  have hA : ∀ q : Nat, s.heap.size ≤ q → A q := fun q h => by rw [← hAe]; exact Or.inr h
  have hS : va_S A s.heap s.heap [] := va_S.rf
  have hP : va_P (dC, dI) vwCl [(m0, .inr (8, mdL AM g)), (AM 0, .inl (cY 0, 72, .inl tb)), (AM 2, .inl (cY 0, 22, .inl sA)), (AM 3, .inl (cY 0, 22, .inl rd)), (AM 4, .inl (cY 0, 110, .inl kp)), (AM 5, .inl (cY 0, 8414, .inl td)), (AM 6, .inl (cY 0, 2, .inl wn)), (AM 13, .inl (cY 0, 4, .inl rw)), (AM 14, .inl (cY 0, 4, .inl br))] s.heap := hP
  have hl := lv_entry ([.ref m0, .int depth]) (n := 3) (Nat.le_of_ble_eq_true rfl)
  rw [lg_entry_eq]
  generalize (lg_sl ([.ref m0, .int depth]) ++ List.replicate (3 - (lg_sl ([.ref m0, .int depth])).length) Slot.unset).toArray = ls at hl ⊢
  have hl : lv_has ls 3 [(0, .ref m0), (1, .int depth)] := hl
  refine lv_iconst (v := 0) hx hb dX8_fetch_0 (by decide) ?_
  refine lv_istore_n (lv' := [(2, .int 0), (0, .ref m0), (1, .int depth)]) hx hb dX8_fetch_1 rfl hl (by decide) rfl (fun ls hl => ?_)
  refine lv_iload_n hx hb dX8_fetch_2 rfl (lv_at hl 0 rfl) ?_
  refine lv_bipush (v := 22) hx hb dX8_fetch_3 (by decide) ?_
  refine lv_icmp_ge (tgt := 31) hx hb dX8_fetch_5 (by decide) (fun c_1 => ?_) (fun c_1 => ?_)
  · exact absurd c_1 (by decide)
  refine lv_aload_n hx hb dX8_fetch_8 rfl (lv_at hl 1 rfl) ?_
  refine va_get (D := (dC, dI)) (ci := 8) (v := .ref (AM 2)) (C := RX8) (T := TX8) (N := 17) hx hb hts inw_X8_fetch_X8 hown hK hP 0 rfl rfl 2 (by decide) (hts (.fieldLink RX8 13 "DuelFramesModel" "s" "[I") (List.mem_of_getElem? (i := 1) rfl)) (fun _ h9 => h9) rfl dX8_fetch_9 ?_
  refine lv_iload_n hx hb dX8_fetch_12 rfl (lv_at hl 0 rfl) ?_
  refine lv_aload_n hx hb dX8_fetch_13 rfl (lv_at hl 1 rfl) ?_
  refine va_get (D := (dC, dI)) (ci := 8) (v := .ref (AM 4)) (C := RX8) (T := TX8) (N := 17) hx hb hts inw_X8_fetch_X8 hown hK hP 0 rfl rfl 4 (by decide) (hts (.fieldLink RX8 19 "DuelFramesModel" "kept" "[I") (List.mem_of_getElem? (i := 2) rfl)) (fun _ h9 => h9) rfl dX8_fetch_14 ?_
  refine lv_bipush (v := 22) hx hb dX8_fetch_17 (by decide) ?_
  refine lv_iload_n hx hb dX8_fetch_19 rfl (lv_at hl 2 rfl) ?_
  refine lv_imul hx hb dX8_fetch_20 ?_
  refine lv_iload_n hx hb dX8_fetch_21 rfl (lv_at hl 0 rfl) ?_
  refine lv_iadd hx hb dX8_fetch_22 ?_
  refine va_iald hx hb hK hP 4 0 rfl rfl (kp_in hd5 (vin rfl)) dX8_fetch_23 ?_
  refine lv_topi (fun x_2 ex_2 => ?_)
  obtain rfl : x_2 = (kp ((22 * depth) + 0).toNatClampNeg) := ex_2
  refine va_iast hx hb hK hP hD hS 2 0 rfl rfl (vin rfl) dX8_fetch_24 (fun H locs hP1 hD1 hS1 => ?_)
  clear hP hD hS
  have hP : va_P (dC, dI) vwCl [(m0, .inr (8, mdL AM g)), (AM 0, .inl (cY 0, 72, .inl tb)), (AM 2, .inl (cY 0, 22, .inl (upd sA 0 (kp ((22 * depth) + 0).toNatClampNeg)))), (AM 3, .inl (cY 0, 22, .inl rd)), (AM 4, .inl (cY 0, 110, .inl kp)), (AM 5, .inl (cY 0, 8414, .inl td)), (AM 6, .inl (cY 0, 2, .inl wn)), (AM 13, .inl (cY 0, 4, .inl rw)), (AM 14, .inl (cY 0, 4, .inl br))] H := hP1
  have hD : va_D A [(m0, .inr (8, mdL AM g)), (AM 0, .inl (cY 0, 72, .inl tb)), (AM 2, .inl (cY 0, 22, .inl (upd sA 0 (kp ((22 * depth) + 0).toNatClampNeg)))), (AM 3, .inl (cY 0, 22, .inl rd)), (AM 4, .inl (cY 0, 110, .inl kp)), (AM 5, .inl (cY 0, 8414, .inl td)), (AM 6, .inl (cY 0, 2, .inl wn)), (AM 13, .inl (cY 0, 4, .inl rw)), (AM 14, .inl (cY 0, 4, .inl br))] := hD1
  have hS := hS1
  clear hP1 hD1 hS1
  refine lv_iinc (v := 1) (lv' := [(2, .int 1), (0, .ref m0), (1, .int depth)]) hx hb dX8_fetch_25 hl (k := 0) rfl (by first | rfl | decide) (by decide) rfl (fun ls hl => ?_)
  refine lv_goto (tgt := 2) hx hb dX8_fetch_28 (by decide) ?_
  refine lv_iload_n hx hb dX8_fetch_2 rfl (lv_at hl 0 rfl) ?_
  refine lv_bipush (v := 22) hx hb dX8_fetch_3 (by decide) ?_
  refine lv_icmp_ge (tgt := 31) hx hb dX8_fetch_5 (by decide) (fun c_3 => ?_) (fun c_3 => ?_)
  · exact absurd c_3 (by decide)
  refine lv_aload_n hx hb dX8_fetch_8 rfl (lv_at hl 1 rfl) ?_
  refine va_get (D := (dC, dI)) (ci := 8) (v := .ref (AM 2)) (C := RX8) (T := TX8) (N := 17) hx hb hts inw_X8_fetch_X8 hown hK hP 0 rfl rfl 2 (by decide) (hts (.fieldLink RX8 13 "DuelFramesModel" "s" "[I") (List.mem_of_getElem? (i := 1) rfl)) (fun _ h9 => h9) rfl dX8_fetch_9 ?_
  refine lv_iload_n hx hb dX8_fetch_12 rfl (lv_at hl 0 rfl) ?_
  refine lv_aload_n hx hb dX8_fetch_13 rfl (lv_at hl 1 rfl) ?_
  refine va_get (D := (dC, dI)) (ci := 8) (v := .ref (AM 4)) (C := RX8) (T := TX8) (N := 17) hx hb hts inw_X8_fetch_X8 hown hK hP 0 rfl rfl 4 (by decide) (hts (.fieldLink RX8 19 "DuelFramesModel" "kept" "[I") (List.mem_of_getElem? (i := 2) rfl)) (fun _ h9 => h9) rfl dX8_fetch_14 ?_
  refine lv_bipush (v := 22) hx hb dX8_fetch_17 (by decide) ?_
  refine lv_iload_n hx hb dX8_fetch_19 rfl (lv_at hl 2 rfl) ?_
  refine lv_imul hx hb dX8_fetch_20 ?_
  refine lv_iload_n hx hb dX8_fetch_21 rfl (lv_at hl 0 rfl) ?_
  refine lv_iadd hx hb dX8_fetch_22 ?_
  refine va_iald hx hb hK hP 4 0 rfl rfl (kp_in hd5 (vin rfl)) dX8_fetch_23 ?_
  refine lv_topi (fun x_4 ex_4 => ?_)
  obtain rfl : x_4 = (kp ((22 * depth) + 1).toNatClampNeg) := ex_4
  refine va_iast hx hb hK hP hD hS 2 0 rfl rfl (vin rfl) dX8_fetch_24 (fun H locs hP1 hD1 hS1 => ?_)
  clear hP hD hS
  have hP : va_P (dC, dI) vwCl [(m0, .inr (8, mdL AM g)), (AM 0, .inl (cY 0, 72, .inl tb)), (AM 2, .inl (cY 0, 22, .inl (upd (upd sA 0 (kp ((22 * depth) + 0).toNatClampNeg)) 1 (kp ((22 * depth) + 1).toNatClampNeg)))), (AM 3, .inl (cY 0, 22, .inl rd)), (AM 4, .inl (cY 0, 110, .inl kp)), (AM 5, .inl (cY 0, 8414, .inl td)), (AM 6, .inl (cY 0, 2, .inl wn)), (AM 13, .inl (cY 0, 4, .inl rw)), (AM 14, .inl (cY 0, 4, .inl br))] H := hP1
  have hD : va_D A [(m0, .inr (8, mdL AM g)), (AM 0, .inl (cY 0, 72, .inl tb)), (AM 2, .inl (cY 0, 22, .inl (upd (upd sA 0 (kp ((22 * depth) + 0).toNatClampNeg)) 1 (kp ((22 * depth) + 1).toNatClampNeg)))), (AM 3, .inl (cY 0, 22, .inl rd)), (AM 4, .inl (cY 0, 110, .inl kp)), (AM 5, .inl (cY 0, 8414, .inl td)), (AM 6, .inl (cY 0, 2, .inl wn)), (AM 13, .inl (cY 0, 4, .inl rw)), (AM 14, .inl (cY 0, 4, .inl br))] := hD1
  have hS := hS1
  clear hP1 hD1 hS1
  refine lv_iinc (v := 2) (lv' := [(2, .int 2), (0, .ref m0), (1, .int depth)]) hx hb dX8_fetch_25 hl (k := 0) rfl (by first | rfl | decide) (by decide) rfl (fun ls hl => ?_)
  refine lv_goto (tgt := 2) hx hb dX8_fetch_28 (by decide) ?_
  refine lv_iload_n hx hb dX8_fetch_2 rfl (lv_at hl 0 rfl) ?_
  refine lv_bipush (v := 22) hx hb dX8_fetch_3 (by decide) ?_
  refine lv_icmp_ge (tgt := 31) hx hb dX8_fetch_5 (by decide) (fun c_5 => ?_) (fun c_5 => ?_)
  · exact absurd c_5 (by decide)
  refine lv_aload_n hx hb dX8_fetch_8 rfl (lv_at hl 1 rfl) ?_
  refine va_get (D := (dC, dI)) (ci := 8) (v := .ref (AM 2)) (C := RX8) (T := TX8) (N := 17) hx hb hts inw_X8_fetch_X8 hown hK hP 0 rfl rfl 2 (by decide) (hts (.fieldLink RX8 13 "DuelFramesModel" "s" "[I") (List.mem_of_getElem? (i := 1) rfl)) (fun _ h9 => h9) rfl dX8_fetch_9 ?_
  refine lv_iload_n hx hb dX8_fetch_12 rfl (lv_at hl 0 rfl) ?_
  refine lv_aload_n hx hb dX8_fetch_13 rfl (lv_at hl 1 rfl) ?_
  refine va_get (D := (dC, dI)) (ci := 8) (v := .ref (AM 4)) (C := RX8) (T := TX8) (N := 17) hx hb hts inw_X8_fetch_X8 hown hK hP 0 rfl rfl 4 (by decide) (hts (.fieldLink RX8 19 "DuelFramesModel" "kept" "[I") (List.mem_of_getElem? (i := 2) rfl)) (fun _ h9 => h9) rfl dX8_fetch_14 ?_
  refine lv_bipush (v := 22) hx hb dX8_fetch_17 (by decide) ?_
  refine lv_iload_n hx hb dX8_fetch_19 rfl (lv_at hl 2 rfl) ?_
  refine lv_imul hx hb dX8_fetch_20 ?_
  refine lv_iload_n hx hb dX8_fetch_21 rfl (lv_at hl 0 rfl) ?_
  refine lv_iadd hx hb dX8_fetch_22 ?_
  refine va_iald hx hb hK hP 4 0 rfl rfl (kp_in hd5 (vin rfl)) dX8_fetch_23 ?_
  refine lv_topi (fun x_6 ex_6 => ?_)
  obtain rfl : x_6 = (kp ((22 * depth) + 2).toNatClampNeg) := ex_6
  refine va_iast hx hb hK hP hD hS 2 0 rfl rfl (vin rfl) dX8_fetch_24 (fun H locs hP1 hD1 hS1 => ?_)
  clear hP hD hS
  have hP : va_P (dC, dI) vwCl [(m0, .inr (8, mdL AM g)), (AM 0, .inl (cY 0, 72, .inl tb)), (AM 2, .inl (cY 0, 22, .inl (upd (upd (upd sA 0 (kp ((22 * depth) + 0).toNatClampNeg)) 1 (kp ((22 * depth) + 1).toNatClampNeg)) 2 (kp ((22 * depth) + 2).toNatClampNeg)))), (AM 3, .inl (cY 0, 22, .inl rd)), (AM 4, .inl (cY 0, 110, .inl kp)), (AM 5, .inl (cY 0, 8414, .inl td)), (AM 6, .inl (cY 0, 2, .inl wn)), (AM 13, .inl (cY 0, 4, .inl rw)), (AM 14, .inl (cY 0, 4, .inl br))] H := hP1
  have hD : va_D A [(m0, .inr (8, mdL AM g)), (AM 0, .inl (cY 0, 72, .inl tb)), (AM 2, .inl (cY 0, 22, .inl (upd (upd (upd sA 0 (kp ((22 * depth) + 0).toNatClampNeg)) 1 (kp ((22 * depth) + 1).toNatClampNeg)) 2 (kp ((22 * depth) + 2).toNatClampNeg)))), (AM 3, .inl (cY 0, 22, .inl rd)), (AM 4, .inl (cY 0, 110, .inl kp)), (AM 5, .inl (cY 0, 8414, .inl td)), (AM 6, .inl (cY 0, 2, .inl wn)), (AM 13, .inl (cY 0, 4, .inl rw)), (AM 14, .inl (cY 0, 4, .inl br))] := hD1
  have hS := hS1
  clear hP1 hD1 hS1
  refine lv_iinc (v := 3) (lv' := [(2, .int 3), (0, .ref m0), (1, .int depth)]) hx hb dX8_fetch_25 hl (k := 0) rfl (by first | rfl | decide) (by decide) rfl (fun ls hl => ?_)
  refine lv_goto (tgt := 2) hx hb dX8_fetch_28 (by decide) ?_
  refine lv_iload_n hx hb dX8_fetch_2 rfl (lv_at hl 0 rfl) ?_
  refine lv_bipush (v := 22) hx hb dX8_fetch_3 (by decide) ?_
  refine lv_icmp_ge (tgt := 31) hx hb dX8_fetch_5 (by decide) (fun c_7 => ?_) (fun c_7 => ?_)
  · exact absurd c_7 (by decide)
  refine lv_aload_n hx hb dX8_fetch_8 rfl (lv_at hl 1 rfl) ?_
  refine va_get (D := (dC, dI)) (ci := 8) (v := .ref (AM 2)) (C := RX8) (T := TX8) (N := 17) hx hb hts inw_X8_fetch_X8 hown hK hP 0 rfl rfl 2 (by decide) (hts (.fieldLink RX8 13 "DuelFramesModel" "s" "[I") (List.mem_of_getElem? (i := 1) rfl)) (fun _ h9 => h9) rfl dX8_fetch_9 ?_
  refine lv_iload_n hx hb dX8_fetch_12 rfl (lv_at hl 0 rfl) ?_
  refine lv_aload_n hx hb dX8_fetch_13 rfl (lv_at hl 1 rfl) ?_
  refine va_get (D := (dC, dI)) (ci := 8) (v := .ref (AM 4)) (C := RX8) (T := TX8) (N := 17) hx hb hts inw_X8_fetch_X8 hown hK hP 0 rfl rfl 4 (by decide) (hts (.fieldLink RX8 19 "DuelFramesModel" "kept" "[I") (List.mem_of_getElem? (i := 2) rfl)) (fun _ h9 => h9) rfl dX8_fetch_14 ?_
  refine lv_bipush (v := 22) hx hb dX8_fetch_17 (by decide) ?_
  refine lv_iload_n hx hb dX8_fetch_19 rfl (lv_at hl 2 rfl) ?_
  refine lv_imul hx hb dX8_fetch_20 ?_
  refine lv_iload_n hx hb dX8_fetch_21 rfl (lv_at hl 0 rfl) ?_
  refine lv_iadd hx hb dX8_fetch_22 ?_
  refine va_iald hx hb hK hP 4 0 rfl rfl (kp_in hd5 (vin rfl)) dX8_fetch_23 ?_
  refine lv_topi (fun x_8 ex_8 => ?_)
  obtain rfl : x_8 = (kp ((22 * depth) + 3).toNatClampNeg) := ex_8
  refine va_iast hx hb hK hP hD hS 2 0 rfl rfl (vin rfl) dX8_fetch_24 (fun H locs hP1 hD1 hS1 => ?_)
  clear hP hD hS
  have hP : va_P (dC, dI) vwCl [(m0, .inr (8, mdL AM g)), (AM 0, .inl (cY 0, 72, .inl tb)), (AM 2, .inl (cY 0, 22, .inl (upd (upd (upd (upd sA 0 (kp ((22 * depth) + 0).toNatClampNeg)) 1 (kp ((22 * depth) + 1).toNatClampNeg)) 2 (kp ((22 * depth) + 2).toNatClampNeg)) 3 (kp ((22 * depth) + 3).toNatClampNeg)))), (AM 3, .inl (cY 0, 22, .inl rd)), (AM 4, .inl (cY 0, 110, .inl kp)), (AM 5, .inl (cY 0, 8414, .inl td)), (AM 6, .inl (cY 0, 2, .inl wn)), (AM 13, .inl (cY 0, 4, .inl rw)), (AM 14, .inl (cY 0, 4, .inl br))] H := hP1
  have hD : va_D A [(m0, .inr (8, mdL AM g)), (AM 0, .inl (cY 0, 72, .inl tb)), (AM 2, .inl (cY 0, 22, .inl (upd (upd (upd (upd sA 0 (kp ((22 * depth) + 0).toNatClampNeg)) 1 (kp ((22 * depth) + 1).toNatClampNeg)) 2 (kp ((22 * depth) + 2).toNatClampNeg)) 3 (kp ((22 * depth) + 3).toNatClampNeg)))), (AM 3, .inl (cY 0, 22, .inl rd)), (AM 4, .inl (cY 0, 110, .inl kp)), (AM 5, .inl (cY 0, 8414, .inl td)), (AM 6, .inl (cY 0, 2, .inl wn)), (AM 13, .inl (cY 0, 4, .inl rw)), (AM 14, .inl (cY 0, 4, .inl br))] := hD1
  have hS := hS1
  clear hP1 hD1 hS1
  refine lv_iinc (v := 4) (lv' := [(2, .int 4), (0, .ref m0), (1, .int depth)]) hx hb dX8_fetch_25 hl (k := 0) rfl (by first | rfl | decide) (by decide) rfl (fun ls hl => ?_)
  refine lv_goto (tgt := 2) hx hb dX8_fetch_28 (by decide) ?_
  refine lv_iload_n hx hb dX8_fetch_2 rfl (lv_at hl 0 rfl) ?_
  refine lv_bipush (v := 22) hx hb dX8_fetch_3 (by decide) ?_
  refine lv_icmp_ge (tgt := 31) hx hb dX8_fetch_5 (by decide) (fun c_9 => ?_) (fun c_9 => ?_)
  · exact absurd c_9 (by decide)
  refine lv_aload_n hx hb dX8_fetch_8 rfl (lv_at hl 1 rfl) ?_
  refine va_get (D := (dC, dI)) (ci := 8) (v := .ref (AM 2)) (C := RX8) (T := TX8) (N := 17) hx hb hts inw_X8_fetch_X8 hown hK hP 0 rfl rfl 2 (by decide) (hts (.fieldLink RX8 13 "DuelFramesModel" "s" "[I") (List.mem_of_getElem? (i := 1) rfl)) (fun _ h9 => h9) rfl dX8_fetch_9 ?_
  refine lv_iload_n hx hb dX8_fetch_12 rfl (lv_at hl 0 rfl) ?_
  refine lv_aload_n hx hb dX8_fetch_13 rfl (lv_at hl 1 rfl) ?_
  refine va_get (D := (dC, dI)) (ci := 8) (v := .ref (AM 4)) (C := RX8) (T := TX8) (N := 17) hx hb hts inw_X8_fetch_X8 hown hK hP 0 rfl rfl 4 (by decide) (hts (.fieldLink RX8 19 "DuelFramesModel" "kept" "[I") (List.mem_of_getElem? (i := 2) rfl)) (fun _ h9 => h9) rfl dX8_fetch_14 ?_
  refine lv_bipush (v := 22) hx hb dX8_fetch_17 (by decide) ?_
  refine lv_iload_n hx hb dX8_fetch_19 rfl (lv_at hl 2 rfl) ?_
  refine lv_imul hx hb dX8_fetch_20 ?_
  refine lv_iload_n hx hb dX8_fetch_21 rfl (lv_at hl 0 rfl) ?_
  refine lv_iadd hx hb dX8_fetch_22 ?_
  refine va_iald hx hb hK hP 4 0 rfl rfl (kp_in hd5 (vin rfl)) dX8_fetch_23 ?_
  refine lv_topi (fun x_10 ex_10 => ?_)
  obtain rfl : x_10 = (kp ((22 * depth) + 4).toNatClampNeg) := ex_10
  refine va_iast hx hb hK hP hD hS 2 0 rfl rfl (vin rfl) dX8_fetch_24 (fun H locs hP1 hD1 hS1 => ?_)
  clear hP hD hS
  have hP : va_P (dC, dI) vwCl [(m0, .inr (8, mdL AM g)), (AM 0, .inl (cY 0, 72, .inl tb)), (AM 2, .inl (cY 0, 22, .inl (upd (upd (upd (upd (upd sA 0 (kp ((22 * depth) + 0).toNatClampNeg)) 1 (kp ((22 * depth) + 1).toNatClampNeg)) 2 (kp ((22 * depth) + 2).toNatClampNeg)) 3 (kp ((22 * depth) + 3).toNatClampNeg)) 4 (kp ((22 * depth) + 4).toNatClampNeg)))), (AM 3, .inl (cY 0, 22, .inl rd)), (AM 4, .inl (cY 0, 110, .inl kp)), (AM 5, .inl (cY 0, 8414, .inl td)), (AM 6, .inl (cY 0, 2, .inl wn)), (AM 13, .inl (cY 0, 4, .inl rw)), (AM 14, .inl (cY 0, 4, .inl br))] H := hP1
  have hD : va_D A [(m0, .inr (8, mdL AM g)), (AM 0, .inl (cY 0, 72, .inl tb)), (AM 2, .inl (cY 0, 22, .inl (upd (upd (upd (upd (upd sA 0 (kp ((22 * depth) + 0).toNatClampNeg)) 1 (kp ((22 * depth) + 1).toNatClampNeg)) 2 (kp ((22 * depth) + 2).toNatClampNeg)) 3 (kp ((22 * depth) + 3).toNatClampNeg)) 4 (kp ((22 * depth) + 4).toNatClampNeg)))), (AM 3, .inl (cY 0, 22, .inl rd)), (AM 4, .inl (cY 0, 110, .inl kp)), (AM 5, .inl (cY 0, 8414, .inl td)), (AM 6, .inl (cY 0, 2, .inl wn)), (AM 13, .inl (cY 0, 4, .inl rw)), (AM 14, .inl (cY 0, 4, .inl br))] := hD1
  have hS := hS1
  clear hP1 hD1 hS1
  refine lv_iinc (v := 5) (lv' := [(2, .int 5), (0, .ref m0), (1, .int depth)]) hx hb dX8_fetch_25 hl (k := 0) rfl (by first | rfl | decide) (by decide) rfl (fun ls hl => ?_)
  refine lv_goto (tgt := 2) hx hb dX8_fetch_28 (by decide) ?_
  refine lv_iload_n hx hb dX8_fetch_2 rfl (lv_at hl 0 rfl) ?_
  refine lv_bipush (v := 22) hx hb dX8_fetch_3 (by decide) ?_
  refine lv_icmp_ge (tgt := 31) hx hb dX8_fetch_5 (by decide) (fun c_11 => ?_) (fun c_11 => ?_)
  · exact absurd c_11 (by decide)
  refine lv_aload_n hx hb dX8_fetch_8 rfl (lv_at hl 1 rfl) ?_
  refine va_get (D := (dC, dI)) (ci := 8) (v := .ref (AM 2)) (C := RX8) (T := TX8) (N := 17) hx hb hts inw_X8_fetch_X8 hown hK hP 0 rfl rfl 2 (by decide) (hts (.fieldLink RX8 13 "DuelFramesModel" "s" "[I") (List.mem_of_getElem? (i := 1) rfl)) (fun _ h9 => h9) rfl dX8_fetch_9 ?_
  refine lv_iload_n hx hb dX8_fetch_12 rfl (lv_at hl 0 rfl) ?_
  refine lv_aload_n hx hb dX8_fetch_13 rfl (lv_at hl 1 rfl) ?_
  refine va_get (D := (dC, dI)) (ci := 8) (v := .ref (AM 4)) (C := RX8) (T := TX8) (N := 17) hx hb hts inw_X8_fetch_X8 hown hK hP 0 rfl rfl 4 (by decide) (hts (.fieldLink RX8 19 "DuelFramesModel" "kept" "[I") (List.mem_of_getElem? (i := 2) rfl)) (fun _ h9 => h9) rfl dX8_fetch_14 ?_
  refine lv_bipush (v := 22) hx hb dX8_fetch_17 (by decide) ?_
  refine lv_iload_n hx hb dX8_fetch_19 rfl (lv_at hl 2 rfl) ?_
  refine lv_imul hx hb dX8_fetch_20 ?_
  refine lv_iload_n hx hb dX8_fetch_21 rfl (lv_at hl 0 rfl) ?_
  refine lv_iadd hx hb dX8_fetch_22 ?_
  refine va_iald hx hb hK hP 4 0 rfl rfl (kp_in hd5 (vin rfl)) dX8_fetch_23 ?_
  refine lv_topi (fun x_12 ex_12 => ?_)
  obtain rfl : x_12 = (kp ((22 * depth) + 5).toNatClampNeg) := ex_12
  refine va_iast hx hb hK hP hD hS 2 0 rfl rfl (vin rfl) dX8_fetch_24 (fun H locs hP1 hD1 hS1 => ?_)
  clear hP hD hS
  have hP : va_P (dC, dI) vwCl [(m0, .inr (8, mdL AM g)), (AM 0, .inl (cY 0, 72, .inl tb)), (AM 2, .inl (cY 0, 22, .inl (upd (upd (upd (upd (upd (upd sA 0 (kp ((22 * depth) + 0).toNatClampNeg)) 1 (kp ((22 * depth) + 1).toNatClampNeg)) 2 (kp ((22 * depth) + 2).toNatClampNeg)) 3 (kp ((22 * depth) + 3).toNatClampNeg)) 4 (kp ((22 * depth) + 4).toNatClampNeg)) 5 (kp ((22 * depth) + 5).toNatClampNeg)))), (AM 3, .inl (cY 0, 22, .inl rd)), (AM 4, .inl (cY 0, 110, .inl kp)), (AM 5, .inl (cY 0, 8414, .inl td)), (AM 6, .inl (cY 0, 2, .inl wn)), (AM 13, .inl (cY 0, 4, .inl rw)), (AM 14, .inl (cY 0, 4, .inl br))] H := hP1
  have hD : va_D A [(m0, .inr (8, mdL AM g)), (AM 0, .inl (cY 0, 72, .inl tb)), (AM 2, .inl (cY 0, 22, .inl (upd (upd (upd (upd (upd (upd sA 0 (kp ((22 * depth) + 0).toNatClampNeg)) 1 (kp ((22 * depth) + 1).toNatClampNeg)) 2 (kp ((22 * depth) + 2).toNatClampNeg)) 3 (kp ((22 * depth) + 3).toNatClampNeg)) 4 (kp ((22 * depth) + 4).toNatClampNeg)) 5 (kp ((22 * depth) + 5).toNatClampNeg)))), (AM 3, .inl (cY 0, 22, .inl rd)), (AM 4, .inl (cY 0, 110, .inl kp)), (AM 5, .inl (cY 0, 8414, .inl td)), (AM 6, .inl (cY 0, 2, .inl wn)), (AM 13, .inl (cY 0, 4, .inl rw)), (AM 14, .inl (cY 0, 4, .inl br))] := hD1
  have hS := hS1
  clear hP1 hD1 hS1
  refine lv_iinc (v := 6) (lv' := [(2, .int 6), (0, .ref m0), (1, .int depth)]) hx hb dX8_fetch_25 hl (k := 0) rfl (by first | rfl | decide) (by decide) rfl (fun ls hl => ?_)
  refine lv_goto (tgt := 2) hx hb dX8_fetch_28 (by decide) ?_
  refine lv_iload_n hx hb dX8_fetch_2 rfl (lv_at hl 0 rfl) ?_
  refine lv_bipush (v := 22) hx hb dX8_fetch_3 (by decide) ?_
  refine lv_icmp_ge (tgt := 31) hx hb dX8_fetch_5 (by decide) (fun c_13 => ?_) (fun c_13 => ?_)
  · exact absurd c_13 (by decide)
  refine lv_aload_n hx hb dX8_fetch_8 rfl (lv_at hl 1 rfl) ?_
  refine va_get (D := (dC, dI)) (ci := 8) (v := .ref (AM 2)) (C := RX8) (T := TX8) (N := 17) hx hb hts inw_X8_fetch_X8 hown hK hP 0 rfl rfl 2 (by decide) (hts (.fieldLink RX8 13 "DuelFramesModel" "s" "[I") (List.mem_of_getElem? (i := 1) rfl)) (fun _ h9 => h9) rfl dX8_fetch_9 ?_
  refine lv_iload_n hx hb dX8_fetch_12 rfl (lv_at hl 0 rfl) ?_
  refine lv_aload_n hx hb dX8_fetch_13 rfl (lv_at hl 1 rfl) ?_
  refine va_get (D := (dC, dI)) (ci := 8) (v := .ref (AM 4)) (C := RX8) (T := TX8) (N := 17) hx hb hts inw_X8_fetch_X8 hown hK hP 0 rfl rfl 4 (by decide) (hts (.fieldLink RX8 19 "DuelFramesModel" "kept" "[I") (List.mem_of_getElem? (i := 2) rfl)) (fun _ h9 => h9) rfl dX8_fetch_14 ?_
  refine lv_bipush (v := 22) hx hb dX8_fetch_17 (by decide) ?_
  refine lv_iload_n hx hb dX8_fetch_19 rfl (lv_at hl 2 rfl) ?_
  refine lv_imul hx hb dX8_fetch_20 ?_
  refine lv_iload_n hx hb dX8_fetch_21 rfl (lv_at hl 0 rfl) ?_
  refine lv_iadd hx hb dX8_fetch_22 ?_
  refine va_iald hx hb hK hP 4 0 rfl rfl (kp_in hd5 (vin rfl)) dX8_fetch_23 ?_
  refine lv_topi (fun x_14 ex_14 => ?_)
  obtain rfl : x_14 = (kp ((22 * depth) + 6).toNatClampNeg) := ex_14
  refine va_iast hx hb hK hP hD hS 2 0 rfl rfl (vin rfl) dX8_fetch_24 (fun H locs hP1 hD1 hS1 => ?_)
  clear hP hD hS
  have hP : va_P (dC, dI) vwCl [(m0, .inr (8, mdL AM g)), (AM 0, .inl (cY 0, 72, .inl tb)), (AM 2, .inl (cY 0, 22, .inl (upd (upd (upd (upd (upd (upd (upd sA 0 (kp ((22 * depth) + 0).toNatClampNeg)) 1 (kp ((22 * depth) + 1).toNatClampNeg)) 2 (kp ((22 * depth) + 2).toNatClampNeg)) 3 (kp ((22 * depth) + 3).toNatClampNeg)) 4 (kp ((22 * depth) + 4).toNatClampNeg)) 5 (kp ((22 * depth) + 5).toNatClampNeg)) 6 (kp ((22 * depth) + 6).toNatClampNeg)))), (AM 3, .inl (cY 0, 22, .inl rd)), (AM 4, .inl (cY 0, 110, .inl kp)), (AM 5, .inl (cY 0, 8414, .inl td)), (AM 6, .inl (cY 0, 2, .inl wn)), (AM 13, .inl (cY 0, 4, .inl rw)), (AM 14, .inl (cY 0, 4, .inl br))] H := hP1
  have hD : va_D A [(m0, .inr (8, mdL AM g)), (AM 0, .inl (cY 0, 72, .inl tb)), (AM 2, .inl (cY 0, 22, .inl (upd (upd (upd (upd (upd (upd (upd sA 0 (kp ((22 * depth) + 0).toNatClampNeg)) 1 (kp ((22 * depth) + 1).toNatClampNeg)) 2 (kp ((22 * depth) + 2).toNatClampNeg)) 3 (kp ((22 * depth) + 3).toNatClampNeg)) 4 (kp ((22 * depth) + 4).toNatClampNeg)) 5 (kp ((22 * depth) + 5).toNatClampNeg)) 6 (kp ((22 * depth) + 6).toNatClampNeg)))), (AM 3, .inl (cY 0, 22, .inl rd)), (AM 4, .inl (cY 0, 110, .inl kp)), (AM 5, .inl (cY 0, 8414, .inl td)), (AM 6, .inl (cY 0, 2, .inl wn)), (AM 13, .inl (cY 0, 4, .inl rw)), (AM 14, .inl (cY 0, 4, .inl br))] := hD1
  have hS := hS1
  clear hP1 hD1 hS1
  refine lv_iinc (v := 7) (lv' := [(2, .int 7), (0, .ref m0), (1, .int depth)]) hx hb dX8_fetch_25 hl (k := 0) rfl (by first | rfl | decide) (by decide) rfl (fun ls hl => ?_)
  refine lv_goto (tgt := 2) hx hb dX8_fetch_28 (by decide) ?_
  refine lv_iload_n hx hb dX8_fetch_2 rfl (lv_at hl 0 rfl) ?_
  refine lv_bipush (v := 22) hx hb dX8_fetch_3 (by decide) ?_
  refine lv_icmp_ge (tgt := 31) hx hb dX8_fetch_5 (by decide) (fun c_15 => ?_) (fun c_15 => ?_)
  · exact absurd c_15 (by decide)
  refine lv_aload_n hx hb dX8_fetch_8 rfl (lv_at hl 1 rfl) ?_
  refine va_get (D := (dC, dI)) (ci := 8) (v := .ref (AM 2)) (C := RX8) (T := TX8) (N := 17) hx hb hts inw_X8_fetch_X8 hown hK hP 0 rfl rfl 2 (by decide) (hts (.fieldLink RX8 13 "DuelFramesModel" "s" "[I") (List.mem_of_getElem? (i := 1) rfl)) (fun _ h9 => h9) rfl dX8_fetch_9 ?_
  refine lv_iload_n hx hb dX8_fetch_12 rfl (lv_at hl 0 rfl) ?_
  refine lv_aload_n hx hb dX8_fetch_13 rfl (lv_at hl 1 rfl) ?_
  refine va_get (D := (dC, dI)) (ci := 8) (v := .ref (AM 4)) (C := RX8) (T := TX8) (N := 17) hx hb hts inw_X8_fetch_X8 hown hK hP 0 rfl rfl 4 (by decide) (hts (.fieldLink RX8 19 "DuelFramesModel" "kept" "[I") (List.mem_of_getElem? (i := 2) rfl)) (fun _ h9 => h9) rfl dX8_fetch_14 ?_
  refine lv_bipush (v := 22) hx hb dX8_fetch_17 (by decide) ?_
  refine lv_iload_n hx hb dX8_fetch_19 rfl (lv_at hl 2 rfl) ?_
  refine lv_imul hx hb dX8_fetch_20 ?_
  refine lv_iload_n hx hb dX8_fetch_21 rfl (lv_at hl 0 rfl) ?_
  refine lv_iadd hx hb dX8_fetch_22 ?_
  refine va_iald hx hb hK hP 4 0 rfl rfl (kp_in hd5 (vin rfl)) dX8_fetch_23 ?_
  refine lv_topi (fun x_16 ex_16 => ?_)
  obtain rfl : x_16 = (kp ((22 * depth) + 7).toNatClampNeg) := ex_16
  refine va_iast hx hb hK hP hD hS 2 0 rfl rfl (vin rfl) dX8_fetch_24 (fun H locs hP1 hD1 hS1 => ?_)
  clear hP hD hS
  have hP : va_P (dC, dI) vwCl [(m0, .inr (8, mdL AM g)), (AM 0, .inl (cY 0, 72, .inl tb)), (AM 2, .inl (cY 0, 22, .inl (upd (upd (upd (upd (upd (upd (upd (upd sA 0 (kp ((22 * depth) + 0).toNatClampNeg)) 1 (kp ((22 * depth) + 1).toNatClampNeg)) 2 (kp ((22 * depth) + 2).toNatClampNeg)) 3 (kp ((22 * depth) + 3).toNatClampNeg)) 4 (kp ((22 * depth) + 4).toNatClampNeg)) 5 (kp ((22 * depth) + 5).toNatClampNeg)) 6 (kp ((22 * depth) + 6).toNatClampNeg)) 7 (kp ((22 * depth) + 7).toNatClampNeg)))), (AM 3, .inl (cY 0, 22, .inl rd)), (AM 4, .inl (cY 0, 110, .inl kp)), (AM 5, .inl (cY 0, 8414, .inl td)), (AM 6, .inl (cY 0, 2, .inl wn)), (AM 13, .inl (cY 0, 4, .inl rw)), (AM 14, .inl (cY 0, 4, .inl br))] H := hP1
  have hD : va_D A [(m0, .inr (8, mdL AM g)), (AM 0, .inl (cY 0, 72, .inl tb)), (AM 2, .inl (cY 0, 22, .inl (upd (upd (upd (upd (upd (upd (upd (upd sA 0 (kp ((22 * depth) + 0).toNatClampNeg)) 1 (kp ((22 * depth) + 1).toNatClampNeg)) 2 (kp ((22 * depth) + 2).toNatClampNeg)) 3 (kp ((22 * depth) + 3).toNatClampNeg)) 4 (kp ((22 * depth) + 4).toNatClampNeg)) 5 (kp ((22 * depth) + 5).toNatClampNeg)) 6 (kp ((22 * depth) + 6).toNatClampNeg)) 7 (kp ((22 * depth) + 7).toNatClampNeg)))), (AM 3, .inl (cY 0, 22, .inl rd)), (AM 4, .inl (cY 0, 110, .inl kp)), (AM 5, .inl (cY 0, 8414, .inl td)), (AM 6, .inl (cY 0, 2, .inl wn)), (AM 13, .inl (cY 0, 4, .inl rw)), (AM 14, .inl (cY 0, 4, .inl br))] := hD1
  have hS := hS1
  clear hP1 hD1 hS1
  refine lv_iinc (v := 8) (lv' := [(2, .int 8), (0, .ref m0), (1, .int depth)]) hx hb dX8_fetch_25 hl (k := 0) rfl (by first | rfl | decide) (by decide) rfl (fun ls hl => ?_)
  refine lv_goto (tgt := 2) hx hb dX8_fetch_28 (by decide) ?_
  refine lv_iload_n hx hb dX8_fetch_2 rfl (lv_at hl 0 rfl) ?_
  refine lv_bipush (v := 22) hx hb dX8_fetch_3 (by decide) ?_
  refine lv_icmp_ge (tgt := 31) hx hb dX8_fetch_5 (by decide) (fun c_17 => ?_) (fun c_17 => ?_)
  · exact absurd c_17 (by decide)
  refine lv_aload_n hx hb dX8_fetch_8 rfl (lv_at hl 1 rfl) ?_
  refine va_get (D := (dC, dI)) (ci := 8) (v := .ref (AM 2)) (C := RX8) (T := TX8) (N := 17) hx hb hts inw_X8_fetch_X8 hown hK hP 0 rfl rfl 2 (by decide) (hts (.fieldLink RX8 13 "DuelFramesModel" "s" "[I") (List.mem_of_getElem? (i := 1) rfl)) (fun _ h9 => h9) rfl dX8_fetch_9 ?_
  refine lv_iload_n hx hb dX8_fetch_12 rfl (lv_at hl 0 rfl) ?_
  refine lv_aload_n hx hb dX8_fetch_13 rfl (lv_at hl 1 rfl) ?_
  refine va_get (D := (dC, dI)) (ci := 8) (v := .ref (AM 4)) (C := RX8) (T := TX8) (N := 17) hx hb hts inw_X8_fetch_X8 hown hK hP 0 rfl rfl 4 (by decide) (hts (.fieldLink RX8 19 "DuelFramesModel" "kept" "[I") (List.mem_of_getElem? (i := 2) rfl)) (fun _ h9 => h9) rfl dX8_fetch_14 ?_
  refine lv_bipush (v := 22) hx hb dX8_fetch_17 (by decide) ?_
  refine lv_iload_n hx hb dX8_fetch_19 rfl (lv_at hl 2 rfl) ?_
  refine lv_imul hx hb dX8_fetch_20 ?_
  refine lv_iload_n hx hb dX8_fetch_21 rfl (lv_at hl 0 rfl) ?_
  refine lv_iadd hx hb dX8_fetch_22 ?_
  refine va_iald hx hb hK hP 4 0 rfl rfl (kp_in hd5 (vin rfl)) dX8_fetch_23 ?_
  refine lv_topi (fun x_18 ex_18 => ?_)
  obtain rfl : x_18 = (kp ((22 * depth) + 8).toNatClampNeg) := ex_18
  refine va_iast hx hb hK hP hD hS 2 0 rfl rfl (vin rfl) dX8_fetch_24 (fun H locs hP1 hD1 hS1 => ?_)
  clear hP hD hS
  have hP : va_P (dC, dI) vwCl [(m0, .inr (8, mdL AM g)), (AM 0, .inl (cY 0, 72, .inl tb)), (AM 2, .inl (cY 0, 22, .inl (upd (upd (upd (upd (upd (upd (upd (upd (upd sA 0 (kp ((22 * depth) + 0).toNatClampNeg)) 1 (kp ((22 * depth) + 1).toNatClampNeg)) 2 (kp ((22 * depth) + 2).toNatClampNeg)) 3 (kp ((22 * depth) + 3).toNatClampNeg)) 4 (kp ((22 * depth) + 4).toNatClampNeg)) 5 (kp ((22 * depth) + 5).toNatClampNeg)) 6 (kp ((22 * depth) + 6).toNatClampNeg)) 7 (kp ((22 * depth) + 7).toNatClampNeg)) 8 (kp ((22 * depth) + 8).toNatClampNeg)))), (AM 3, .inl (cY 0, 22, .inl rd)), (AM 4, .inl (cY 0, 110, .inl kp)), (AM 5, .inl (cY 0, 8414, .inl td)), (AM 6, .inl (cY 0, 2, .inl wn)), (AM 13, .inl (cY 0, 4, .inl rw)), (AM 14, .inl (cY 0, 4, .inl br))] H := hP1
  have hD : va_D A [(m0, .inr (8, mdL AM g)), (AM 0, .inl (cY 0, 72, .inl tb)), (AM 2, .inl (cY 0, 22, .inl (upd (upd (upd (upd (upd (upd (upd (upd (upd sA 0 (kp ((22 * depth) + 0).toNatClampNeg)) 1 (kp ((22 * depth) + 1).toNatClampNeg)) 2 (kp ((22 * depth) + 2).toNatClampNeg)) 3 (kp ((22 * depth) + 3).toNatClampNeg)) 4 (kp ((22 * depth) + 4).toNatClampNeg)) 5 (kp ((22 * depth) + 5).toNatClampNeg)) 6 (kp ((22 * depth) + 6).toNatClampNeg)) 7 (kp ((22 * depth) + 7).toNatClampNeg)) 8 (kp ((22 * depth) + 8).toNatClampNeg)))), (AM 3, .inl (cY 0, 22, .inl rd)), (AM 4, .inl (cY 0, 110, .inl kp)), (AM 5, .inl (cY 0, 8414, .inl td)), (AM 6, .inl (cY 0, 2, .inl wn)), (AM 13, .inl (cY 0, 4, .inl rw)), (AM 14, .inl (cY 0, 4, .inl br))] := hD1
  have hS := hS1
  clear hP1 hD1 hS1
  refine lv_iinc (v := 9) (lv' := [(2, .int 9), (0, .ref m0), (1, .int depth)]) hx hb dX8_fetch_25 hl (k := 0) rfl (by first | rfl | decide) (by decide) rfl (fun ls hl => ?_)
  refine lv_goto (tgt := 2) hx hb dX8_fetch_28 (by decide) ?_
  refine lv_iload_n hx hb dX8_fetch_2 rfl (lv_at hl 0 rfl) ?_
  refine lv_bipush (v := 22) hx hb dX8_fetch_3 (by decide) ?_
  refine lv_icmp_ge (tgt := 31) hx hb dX8_fetch_5 (by decide) (fun c_19 => ?_) (fun c_19 => ?_)
  · exact absurd c_19 (by decide)
  refine lv_aload_n hx hb dX8_fetch_8 rfl (lv_at hl 1 rfl) ?_
  refine va_get (D := (dC, dI)) (ci := 8) (v := .ref (AM 2)) (C := RX8) (T := TX8) (N := 17) hx hb hts inw_X8_fetch_X8 hown hK hP 0 rfl rfl 2 (by decide) (hts (.fieldLink RX8 13 "DuelFramesModel" "s" "[I") (List.mem_of_getElem? (i := 1) rfl)) (fun _ h9 => h9) rfl dX8_fetch_9 ?_
  refine lv_iload_n hx hb dX8_fetch_12 rfl (lv_at hl 0 rfl) ?_
  refine lv_aload_n hx hb dX8_fetch_13 rfl (lv_at hl 1 rfl) ?_
  refine va_get (D := (dC, dI)) (ci := 8) (v := .ref (AM 4)) (C := RX8) (T := TX8) (N := 17) hx hb hts inw_X8_fetch_X8 hown hK hP 0 rfl rfl 4 (by decide) (hts (.fieldLink RX8 19 "DuelFramesModel" "kept" "[I") (List.mem_of_getElem? (i := 2) rfl)) (fun _ h9 => h9) rfl dX8_fetch_14 ?_
  refine lv_bipush (v := 22) hx hb dX8_fetch_17 (by decide) ?_
  refine lv_iload_n hx hb dX8_fetch_19 rfl (lv_at hl 2 rfl) ?_
  refine lv_imul hx hb dX8_fetch_20 ?_
  refine lv_iload_n hx hb dX8_fetch_21 rfl (lv_at hl 0 rfl) ?_
  refine lv_iadd hx hb dX8_fetch_22 ?_
  refine va_iald hx hb hK hP 4 0 rfl rfl (kp_in hd5 (vin rfl)) dX8_fetch_23 ?_
  refine lv_topi (fun x_20 ex_20 => ?_)
  obtain rfl : x_20 = (kp ((22 * depth) + 9).toNatClampNeg) := ex_20
  refine va_iast hx hb hK hP hD hS 2 0 rfl rfl (vin rfl) dX8_fetch_24 (fun H locs hP1 hD1 hS1 => ?_)
  clear hP hD hS
  have hP : va_P (dC, dI) vwCl [(m0, .inr (8, mdL AM g)), (AM 0, .inl (cY 0, 72, .inl tb)), (AM 2, .inl (cY 0, 22, .inl (upd (upd (upd (upd (upd (upd (upd (upd (upd (upd sA 0 (kp ((22 * depth) + 0).toNatClampNeg)) 1 (kp ((22 * depth) + 1).toNatClampNeg)) 2 (kp ((22 * depth) + 2).toNatClampNeg)) 3 (kp ((22 * depth) + 3).toNatClampNeg)) 4 (kp ((22 * depth) + 4).toNatClampNeg)) 5 (kp ((22 * depth) + 5).toNatClampNeg)) 6 (kp ((22 * depth) + 6).toNatClampNeg)) 7 (kp ((22 * depth) + 7).toNatClampNeg)) 8 (kp ((22 * depth) + 8).toNatClampNeg)) 9 (kp ((22 * depth) + 9).toNatClampNeg)))), (AM 3, .inl (cY 0, 22, .inl rd)), (AM 4, .inl (cY 0, 110, .inl kp)), (AM 5, .inl (cY 0, 8414, .inl td)), (AM 6, .inl (cY 0, 2, .inl wn)), (AM 13, .inl (cY 0, 4, .inl rw)), (AM 14, .inl (cY 0, 4, .inl br))] H := hP1
  have hD : va_D A [(m0, .inr (8, mdL AM g)), (AM 0, .inl (cY 0, 72, .inl tb)), (AM 2, .inl (cY 0, 22, .inl (upd (upd (upd (upd (upd (upd (upd (upd (upd (upd sA 0 (kp ((22 * depth) + 0).toNatClampNeg)) 1 (kp ((22 * depth) + 1).toNatClampNeg)) 2 (kp ((22 * depth) + 2).toNatClampNeg)) 3 (kp ((22 * depth) + 3).toNatClampNeg)) 4 (kp ((22 * depth) + 4).toNatClampNeg)) 5 (kp ((22 * depth) + 5).toNatClampNeg)) 6 (kp ((22 * depth) + 6).toNatClampNeg)) 7 (kp ((22 * depth) + 7).toNatClampNeg)) 8 (kp ((22 * depth) + 8).toNatClampNeg)) 9 (kp ((22 * depth) + 9).toNatClampNeg)))), (AM 3, .inl (cY 0, 22, .inl rd)), (AM 4, .inl (cY 0, 110, .inl kp)), (AM 5, .inl (cY 0, 8414, .inl td)), (AM 6, .inl (cY 0, 2, .inl wn)), (AM 13, .inl (cY 0, 4, .inl rw)), (AM 14, .inl (cY 0, 4, .inl br))] := hD1
  have hS := hS1
  clear hP1 hD1 hS1
  refine lv_iinc (v := 10) (lv' := [(2, .int 10), (0, .ref m0), (1, .int depth)]) hx hb dX8_fetch_25 hl (k := 0) rfl (by first | rfl | decide) (by decide) rfl (fun ls hl => ?_)
  refine lv_goto (tgt := 2) hx hb dX8_fetch_28 (by decide) ?_
  refine lv_iload_n hx hb dX8_fetch_2 rfl (lv_at hl 0 rfl) ?_
  refine lv_bipush (v := 22) hx hb dX8_fetch_3 (by decide) ?_
  refine lv_icmp_ge (tgt := 31) hx hb dX8_fetch_5 (by decide) (fun c_21 => ?_) (fun c_21 => ?_)
  · exact absurd c_21 (by decide)
  refine lv_aload_n hx hb dX8_fetch_8 rfl (lv_at hl 1 rfl) ?_
  refine va_get (D := (dC, dI)) (ci := 8) (v := .ref (AM 2)) (C := RX8) (T := TX8) (N := 17) hx hb hts inw_X8_fetch_X8 hown hK hP 0 rfl rfl 2 (by decide) (hts (.fieldLink RX8 13 "DuelFramesModel" "s" "[I") (List.mem_of_getElem? (i := 1) rfl)) (fun _ h9 => h9) rfl dX8_fetch_9 ?_
  refine lv_iload_n hx hb dX8_fetch_12 rfl (lv_at hl 0 rfl) ?_
  refine lv_aload_n hx hb dX8_fetch_13 rfl (lv_at hl 1 rfl) ?_
  refine va_get (D := (dC, dI)) (ci := 8) (v := .ref (AM 4)) (C := RX8) (T := TX8) (N := 17) hx hb hts inw_X8_fetch_X8 hown hK hP 0 rfl rfl 4 (by decide) (hts (.fieldLink RX8 19 "DuelFramesModel" "kept" "[I") (List.mem_of_getElem? (i := 2) rfl)) (fun _ h9 => h9) rfl dX8_fetch_14 ?_
  refine lv_bipush (v := 22) hx hb dX8_fetch_17 (by decide) ?_
  refine lv_iload_n hx hb dX8_fetch_19 rfl (lv_at hl 2 rfl) ?_
  refine lv_imul hx hb dX8_fetch_20 ?_
  refine lv_iload_n hx hb dX8_fetch_21 rfl (lv_at hl 0 rfl) ?_
  refine lv_iadd hx hb dX8_fetch_22 ?_
  refine va_iald hx hb hK hP 4 0 rfl rfl (kp_in hd5 (vin rfl)) dX8_fetch_23 ?_
  refine lv_topi (fun x_22 ex_22 => ?_)
  obtain rfl : x_22 = (kp ((22 * depth) + 10).toNatClampNeg) := ex_22
  refine va_iast hx hb hK hP hD hS 2 0 rfl rfl (vin rfl) dX8_fetch_24 (fun H locs hP1 hD1 hS1 => ?_)
  clear hP hD hS
  have hP : va_P (dC, dI) vwCl [(m0, .inr (8, mdL AM g)), (AM 0, .inl (cY 0, 72, .inl tb)), (AM 2, .inl (cY 0, 22, .inl (upd (upd (upd (upd (upd (upd (upd (upd (upd (upd (upd sA 0 (kp ((22 * depth) + 0).toNatClampNeg)) 1 (kp ((22 * depth) + 1).toNatClampNeg)) 2 (kp ((22 * depth) + 2).toNatClampNeg)) 3 (kp ((22 * depth) + 3).toNatClampNeg)) 4 (kp ((22 * depth) + 4).toNatClampNeg)) 5 (kp ((22 * depth) + 5).toNatClampNeg)) 6 (kp ((22 * depth) + 6).toNatClampNeg)) 7 (kp ((22 * depth) + 7).toNatClampNeg)) 8 (kp ((22 * depth) + 8).toNatClampNeg)) 9 (kp ((22 * depth) + 9).toNatClampNeg)) 10 (kp ((22 * depth) + 10).toNatClampNeg)))), (AM 3, .inl (cY 0, 22, .inl rd)), (AM 4, .inl (cY 0, 110, .inl kp)), (AM 5, .inl (cY 0, 8414, .inl td)), (AM 6, .inl (cY 0, 2, .inl wn)), (AM 13, .inl (cY 0, 4, .inl rw)), (AM 14, .inl (cY 0, 4, .inl br))] H := hP1
  have hD : va_D A [(m0, .inr (8, mdL AM g)), (AM 0, .inl (cY 0, 72, .inl tb)), (AM 2, .inl (cY 0, 22, .inl (upd (upd (upd (upd (upd (upd (upd (upd (upd (upd (upd sA 0 (kp ((22 * depth) + 0).toNatClampNeg)) 1 (kp ((22 * depth) + 1).toNatClampNeg)) 2 (kp ((22 * depth) + 2).toNatClampNeg)) 3 (kp ((22 * depth) + 3).toNatClampNeg)) 4 (kp ((22 * depth) + 4).toNatClampNeg)) 5 (kp ((22 * depth) + 5).toNatClampNeg)) 6 (kp ((22 * depth) + 6).toNatClampNeg)) 7 (kp ((22 * depth) + 7).toNatClampNeg)) 8 (kp ((22 * depth) + 8).toNatClampNeg)) 9 (kp ((22 * depth) + 9).toNatClampNeg)) 10 (kp ((22 * depth) + 10).toNatClampNeg)))), (AM 3, .inl (cY 0, 22, .inl rd)), (AM 4, .inl (cY 0, 110, .inl kp)), (AM 5, .inl (cY 0, 8414, .inl td)), (AM 6, .inl (cY 0, 2, .inl wn)), (AM 13, .inl (cY 0, 4, .inl rw)), (AM 14, .inl (cY 0, 4, .inl br))] := hD1
  have hS := hS1
  clear hP1 hD1 hS1
  refine lv_iinc (v := 11) (lv' := [(2, .int 11), (0, .ref m0), (1, .int depth)]) hx hb dX8_fetch_25 hl (k := 0) rfl (by first | rfl | decide) (by decide) rfl (fun ls hl => ?_)
  refine lv_goto (tgt := 2) hx hb dX8_fetch_28 (by decide) ?_
  refine lv_iload_n hx hb dX8_fetch_2 rfl (lv_at hl 0 rfl) ?_
  refine lv_bipush (v := 22) hx hb dX8_fetch_3 (by decide) ?_
  refine lv_icmp_ge (tgt := 31) hx hb dX8_fetch_5 (by decide) (fun c_23 => ?_) (fun c_23 => ?_)
  · exact absurd c_23 (by decide)
  refine lv_aload_n hx hb dX8_fetch_8 rfl (lv_at hl 1 rfl) ?_
  refine va_get (D := (dC, dI)) (ci := 8) (v := .ref (AM 2)) (C := RX8) (T := TX8) (N := 17) hx hb hts inw_X8_fetch_X8 hown hK hP 0 rfl rfl 2 (by decide) (hts (.fieldLink RX8 13 "DuelFramesModel" "s" "[I") (List.mem_of_getElem? (i := 1) rfl)) (fun _ h9 => h9) rfl dX8_fetch_9 ?_
  refine lv_iload_n hx hb dX8_fetch_12 rfl (lv_at hl 0 rfl) ?_
  refine lv_aload_n hx hb dX8_fetch_13 rfl (lv_at hl 1 rfl) ?_
  refine va_get (D := (dC, dI)) (ci := 8) (v := .ref (AM 4)) (C := RX8) (T := TX8) (N := 17) hx hb hts inw_X8_fetch_X8 hown hK hP 0 rfl rfl 4 (by decide) (hts (.fieldLink RX8 19 "DuelFramesModel" "kept" "[I") (List.mem_of_getElem? (i := 2) rfl)) (fun _ h9 => h9) rfl dX8_fetch_14 ?_
  refine lv_bipush (v := 22) hx hb dX8_fetch_17 (by decide) ?_
  refine lv_iload_n hx hb dX8_fetch_19 rfl (lv_at hl 2 rfl) ?_
  refine lv_imul hx hb dX8_fetch_20 ?_
  refine lv_iload_n hx hb dX8_fetch_21 rfl (lv_at hl 0 rfl) ?_
  refine lv_iadd hx hb dX8_fetch_22 ?_
  refine va_iald hx hb hK hP 4 0 rfl rfl (kp_in hd5 (vin rfl)) dX8_fetch_23 ?_
  refine lv_topi (fun x_24 ex_24 => ?_)
  obtain rfl : x_24 = (kp ((22 * depth) + 11).toNatClampNeg) := ex_24
  refine va_iast hx hb hK hP hD hS 2 0 rfl rfl (vin rfl) dX8_fetch_24 (fun H locs hP1 hD1 hS1 => ?_)
  clear hP hD hS
  have hP : va_P (dC, dI) vwCl [(m0, .inr (8, mdL AM g)), (AM 0, .inl (cY 0, 72, .inl tb)), (AM 2, .inl (cY 0, 22, .inl (upd (upd (upd (upd (upd (upd (upd (upd (upd (upd (upd (upd sA 0 (kp ((22 * depth) + 0).toNatClampNeg)) 1 (kp ((22 * depth) + 1).toNatClampNeg)) 2 (kp ((22 * depth) + 2).toNatClampNeg)) 3 (kp ((22 * depth) + 3).toNatClampNeg)) 4 (kp ((22 * depth) + 4).toNatClampNeg)) 5 (kp ((22 * depth) + 5).toNatClampNeg)) 6 (kp ((22 * depth) + 6).toNatClampNeg)) 7 (kp ((22 * depth) + 7).toNatClampNeg)) 8 (kp ((22 * depth) + 8).toNatClampNeg)) 9 (kp ((22 * depth) + 9).toNatClampNeg)) 10 (kp ((22 * depth) + 10).toNatClampNeg)) 11 (kp ((22 * depth) + 11).toNatClampNeg)))), (AM 3, .inl (cY 0, 22, .inl rd)), (AM 4, .inl (cY 0, 110, .inl kp)), (AM 5, .inl (cY 0, 8414, .inl td)), (AM 6, .inl (cY 0, 2, .inl wn)), (AM 13, .inl (cY 0, 4, .inl rw)), (AM 14, .inl (cY 0, 4, .inl br))] H := hP1
  have hD : va_D A [(m0, .inr (8, mdL AM g)), (AM 0, .inl (cY 0, 72, .inl tb)), (AM 2, .inl (cY 0, 22, .inl (upd (upd (upd (upd (upd (upd (upd (upd (upd (upd (upd (upd sA 0 (kp ((22 * depth) + 0).toNatClampNeg)) 1 (kp ((22 * depth) + 1).toNatClampNeg)) 2 (kp ((22 * depth) + 2).toNatClampNeg)) 3 (kp ((22 * depth) + 3).toNatClampNeg)) 4 (kp ((22 * depth) + 4).toNatClampNeg)) 5 (kp ((22 * depth) + 5).toNatClampNeg)) 6 (kp ((22 * depth) + 6).toNatClampNeg)) 7 (kp ((22 * depth) + 7).toNatClampNeg)) 8 (kp ((22 * depth) + 8).toNatClampNeg)) 9 (kp ((22 * depth) + 9).toNatClampNeg)) 10 (kp ((22 * depth) + 10).toNatClampNeg)) 11 (kp ((22 * depth) + 11).toNatClampNeg)))), (AM 3, .inl (cY 0, 22, .inl rd)), (AM 4, .inl (cY 0, 110, .inl kp)), (AM 5, .inl (cY 0, 8414, .inl td)), (AM 6, .inl (cY 0, 2, .inl wn)), (AM 13, .inl (cY 0, 4, .inl rw)), (AM 14, .inl (cY 0, 4, .inl br))] := hD1
  have hS := hS1
  clear hP1 hD1 hS1
  refine lv_iinc (v := 12) (lv' := [(2, .int 12), (0, .ref m0), (1, .int depth)]) hx hb dX8_fetch_25 hl (k := 0) rfl (by first | rfl | decide) (by decide) rfl (fun ls hl => ?_)
  refine lv_goto (tgt := 2) hx hb dX8_fetch_28 (by decide) ?_
  refine lv_iload_n hx hb dX8_fetch_2 rfl (lv_at hl 0 rfl) ?_
  refine lv_bipush (v := 22) hx hb dX8_fetch_3 (by decide) ?_
  refine lv_icmp_ge (tgt := 31) hx hb dX8_fetch_5 (by decide) (fun c_25 => ?_) (fun c_25 => ?_)
  · exact absurd c_25 (by decide)
  refine lv_aload_n hx hb dX8_fetch_8 rfl (lv_at hl 1 rfl) ?_
  refine va_get (D := (dC, dI)) (ci := 8) (v := .ref (AM 2)) (C := RX8) (T := TX8) (N := 17) hx hb hts inw_X8_fetch_X8 hown hK hP 0 rfl rfl 2 (by decide) (hts (.fieldLink RX8 13 "DuelFramesModel" "s" "[I") (List.mem_of_getElem? (i := 1) rfl)) (fun _ h9 => h9) rfl dX8_fetch_9 ?_
  refine lv_iload_n hx hb dX8_fetch_12 rfl (lv_at hl 0 rfl) ?_
  refine lv_aload_n hx hb dX8_fetch_13 rfl (lv_at hl 1 rfl) ?_
  refine va_get (D := (dC, dI)) (ci := 8) (v := .ref (AM 4)) (C := RX8) (T := TX8) (N := 17) hx hb hts inw_X8_fetch_X8 hown hK hP 0 rfl rfl 4 (by decide) (hts (.fieldLink RX8 19 "DuelFramesModel" "kept" "[I") (List.mem_of_getElem? (i := 2) rfl)) (fun _ h9 => h9) rfl dX8_fetch_14 ?_
  refine lv_bipush (v := 22) hx hb dX8_fetch_17 (by decide) ?_
  refine lv_iload_n hx hb dX8_fetch_19 rfl (lv_at hl 2 rfl) ?_
  refine lv_imul hx hb dX8_fetch_20 ?_
  refine lv_iload_n hx hb dX8_fetch_21 rfl (lv_at hl 0 rfl) ?_
  refine lv_iadd hx hb dX8_fetch_22 ?_
  refine va_iald hx hb hK hP 4 0 rfl rfl (kp_in hd5 (vin rfl)) dX8_fetch_23 ?_
  refine lv_topi (fun x_26 ex_26 => ?_)
  obtain rfl : x_26 = (kp ((22 * depth) + 12).toNatClampNeg) := ex_26
  refine va_iast hx hb hK hP hD hS 2 0 rfl rfl (vin rfl) dX8_fetch_24 (fun H locs hP1 hD1 hS1 => ?_)
  clear hP hD hS
  have hP : va_P (dC, dI) vwCl [(m0, .inr (8, mdL AM g)), (AM 0, .inl (cY 0, 72, .inl tb)), (AM 2, .inl (cY 0, 22, .inl (upd (upd (upd (upd (upd (upd (upd (upd (upd (upd (upd (upd (upd sA 0 (kp ((22 * depth) + 0).toNatClampNeg)) 1 (kp ((22 * depth) + 1).toNatClampNeg)) 2 (kp ((22 * depth) + 2).toNatClampNeg)) 3 (kp ((22 * depth) + 3).toNatClampNeg)) 4 (kp ((22 * depth) + 4).toNatClampNeg)) 5 (kp ((22 * depth) + 5).toNatClampNeg)) 6 (kp ((22 * depth) + 6).toNatClampNeg)) 7 (kp ((22 * depth) + 7).toNatClampNeg)) 8 (kp ((22 * depth) + 8).toNatClampNeg)) 9 (kp ((22 * depth) + 9).toNatClampNeg)) 10 (kp ((22 * depth) + 10).toNatClampNeg)) 11 (kp ((22 * depth) + 11).toNatClampNeg)) 12 (kp ((22 * depth) + 12).toNatClampNeg)))), (AM 3, .inl (cY 0, 22, .inl rd)), (AM 4, .inl (cY 0, 110, .inl kp)), (AM 5, .inl (cY 0, 8414, .inl td)), (AM 6, .inl (cY 0, 2, .inl wn)), (AM 13, .inl (cY 0, 4, .inl rw)), (AM 14, .inl (cY 0, 4, .inl br))] H := hP1
  have hD : va_D A [(m0, .inr (8, mdL AM g)), (AM 0, .inl (cY 0, 72, .inl tb)), (AM 2, .inl (cY 0, 22, .inl (upd (upd (upd (upd (upd (upd (upd (upd (upd (upd (upd (upd (upd sA 0 (kp ((22 * depth) + 0).toNatClampNeg)) 1 (kp ((22 * depth) + 1).toNatClampNeg)) 2 (kp ((22 * depth) + 2).toNatClampNeg)) 3 (kp ((22 * depth) + 3).toNatClampNeg)) 4 (kp ((22 * depth) + 4).toNatClampNeg)) 5 (kp ((22 * depth) + 5).toNatClampNeg)) 6 (kp ((22 * depth) + 6).toNatClampNeg)) 7 (kp ((22 * depth) + 7).toNatClampNeg)) 8 (kp ((22 * depth) + 8).toNatClampNeg)) 9 (kp ((22 * depth) + 9).toNatClampNeg)) 10 (kp ((22 * depth) + 10).toNatClampNeg)) 11 (kp ((22 * depth) + 11).toNatClampNeg)) 12 (kp ((22 * depth) + 12).toNatClampNeg)))), (AM 3, .inl (cY 0, 22, .inl rd)), (AM 4, .inl (cY 0, 110, .inl kp)), (AM 5, .inl (cY 0, 8414, .inl td)), (AM 6, .inl (cY 0, 2, .inl wn)), (AM 13, .inl (cY 0, 4, .inl rw)), (AM 14, .inl (cY 0, 4, .inl br))] := hD1
  have hS := hS1
  clear hP1 hD1 hS1
  refine lv_iinc (v := 13) (lv' := [(2, .int 13), (0, .ref m0), (1, .int depth)]) hx hb dX8_fetch_25 hl (k := 0) rfl (by first | rfl | decide) (by decide) rfl (fun ls hl => ?_)
  refine lv_goto (tgt := 2) hx hb dX8_fetch_28 (by decide) ?_
  refine lv_iload_n hx hb dX8_fetch_2 rfl (lv_at hl 0 rfl) ?_
  refine lv_bipush (v := 22) hx hb dX8_fetch_3 (by decide) ?_
  refine lv_icmp_ge (tgt := 31) hx hb dX8_fetch_5 (by decide) (fun c_27 => ?_) (fun c_27 => ?_)
  · exact absurd c_27 (by decide)
  refine lv_aload_n hx hb dX8_fetch_8 rfl (lv_at hl 1 rfl) ?_
  refine va_get (D := (dC, dI)) (ci := 8) (v := .ref (AM 2)) (C := RX8) (T := TX8) (N := 17) hx hb hts inw_X8_fetch_X8 hown hK hP 0 rfl rfl 2 (by decide) (hts (.fieldLink RX8 13 "DuelFramesModel" "s" "[I") (List.mem_of_getElem? (i := 1) rfl)) (fun _ h9 => h9) rfl dX8_fetch_9 ?_
  refine lv_iload_n hx hb dX8_fetch_12 rfl (lv_at hl 0 rfl) ?_
  refine lv_aload_n hx hb dX8_fetch_13 rfl (lv_at hl 1 rfl) ?_
  refine va_get (D := (dC, dI)) (ci := 8) (v := .ref (AM 4)) (C := RX8) (T := TX8) (N := 17) hx hb hts inw_X8_fetch_X8 hown hK hP 0 rfl rfl 4 (by decide) (hts (.fieldLink RX8 19 "DuelFramesModel" "kept" "[I") (List.mem_of_getElem? (i := 2) rfl)) (fun _ h9 => h9) rfl dX8_fetch_14 ?_
  refine lv_bipush (v := 22) hx hb dX8_fetch_17 (by decide) ?_
  refine lv_iload_n hx hb dX8_fetch_19 rfl (lv_at hl 2 rfl) ?_
  refine lv_imul hx hb dX8_fetch_20 ?_
  refine lv_iload_n hx hb dX8_fetch_21 rfl (lv_at hl 0 rfl) ?_
  refine lv_iadd hx hb dX8_fetch_22 ?_
  refine va_iald hx hb hK hP 4 0 rfl rfl (kp_in hd5 (vin rfl)) dX8_fetch_23 ?_
  refine lv_topi (fun x_28 ex_28 => ?_)
  obtain rfl : x_28 = (kp ((22 * depth) + 13).toNatClampNeg) := ex_28
  refine va_iast hx hb hK hP hD hS 2 0 rfl rfl (vin rfl) dX8_fetch_24 (fun H locs hP1 hD1 hS1 => ?_)
  clear hP hD hS
  have hP : va_P (dC, dI) vwCl [(m0, .inr (8, mdL AM g)), (AM 0, .inl (cY 0, 72, .inl tb)), (AM 2, .inl (cY 0, 22, .inl (upd (upd (upd (upd (upd (upd (upd (upd (upd (upd (upd (upd (upd (upd sA 0 (kp ((22 * depth) + 0).toNatClampNeg)) 1 (kp ((22 * depth) + 1).toNatClampNeg)) 2 (kp ((22 * depth) + 2).toNatClampNeg)) 3 (kp ((22 * depth) + 3).toNatClampNeg)) 4 (kp ((22 * depth) + 4).toNatClampNeg)) 5 (kp ((22 * depth) + 5).toNatClampNeg)) 6 (kp ((22 * depth) + 6).toNatClampNeg)) 7 (kp ((22 * depth) + 7).toNatClampNeg)) 8 (kp ((22 * depth) + 8).toNatClampNeg)) 9 (kp ((22 * depth) + 9).toNatClampNeg)) 10 (kp ((22 * depth) + 10).toNatClampNeg)) 11 (kp ((22 * depth) + 11).toNatClampNeg)) 12 (kp ((22 * depth) + 12).toNatClampNeg)) 13 (kp ((22 * depth) + 13).toNatClampNeg)))), (AM 3, .inl (cY 0, 22, .inl rd)), (AM 4, .inl (cY 0, 110, .inl kp)), (AM 5, .inl (cY 0, 8414, .inl td)), (AM 6, .inl (cY 0, 2, .inl wn)), (AM 13, .inl (cY 0, 4, .inl rw)), (AM 14, .inl (cY 0, 4, .inl br))] H := hP1
  have hD : va_D A [(m0, .inr (8, mdL AM g)), (AM 0, .inl (cY 0, 72, .inl tb)), (AM 2, .inl (cY 0, 22, .inl (upd (upd (upd (upd (upd (upd (upd (upd (upd (upd (upd (upd (upd (upd sA 0 (kp ((22 * depth) + 0).toNatClampNeg)) 1 (kp ((22 * depth) + 1).toNatClampNeg)) 2 (kp ((22 * depth) + 2).toNatClampNeg)) 3 (kp ((22 * depth) + 3).toNatClampNeg)) 4 (kp ((22 * depth) + 4).toNatClampNeg)) 5 (kp ((22 * depth) + 5).toNatClampNeg)) 6 (kp ((22 * depth) + 6).toNatClampNeg)) 7 (kp ((22 * depth) + 7).toNatClampNeg)) 8 (kp ((22 * depth) + 8).toNatClampNeg)) 9 (kp ((22 * depth) + 9).toNatClampNeg)) 10 (kp ((22 * depth) + 10).toNatClampNeg)) 11 (kp ((22 * depth) + 11).toNatClampNeg)) 12 (kp ((22 * depth) + 12).toNatClampNeg)) 13 (kp ((22 * depth) + 13).toNatClampNeg)))), (AM 3, .inl (cY 0, 22, .inl rd)), (AM 4, .inl (cY 0, 110, .inl kp)), (AM 5, .inl (cY 0, 8414, .inl td)), (AM 6, .inl (cY 0, 2, .inl wn)), (AM 13, .inl (cY 0, 4, .inl rw)), (AM 14, .inl (cY 0, 4, .inl br))] := hD1
  have hS := hS1
  clear hP1 hD1 hS1
  refine lv_iinc (v := 14) (lv' := [(2, .int 14), (0, .ref m0), (1, .int depth)]) hx hb dX8_fetch_25 hl (k := 0) rfl (by first | rfl | decide) (by decide) rfl (fun ls hl => ?_)
  refine lv_goto (tgt := 2) hx hb dX8_fetch_28 (by decide) ?_
  refine lv_iload_n hx hb dX8_fetch_2 rfl (lv_at hl 0 rfl) ?_
  refine lv_bipush (v := 22) hx hb dX8_fetch_3 (by decide) ?_
  refine lv_icmp_ge (tgt := 31) hx hb dX8_fetch_5 (by decide) (fun c_29 => ?_) (fun c_29 => ?_)
  · exact absurd c_29 (by decide)
  refine lv_aload_n hx hb dX8_fetch_8 rfl (lv_at hl 1 rfl) ?_
  refine va_get (D := (dC, dI)) (ci := 8) (v := .ref (AM 2)) (C := RX8) (T := TX8) (N := 17) hx hb hts inw_X8_fetch_X8 hown hK hP 0 rfl rfl 2 (by decide) (hts (.fieldLink RX8 13 "DuelFramesModel" "s" "[I") (List.mem_of_getElem? (i := 1) rfl)) (fun _ h9 => h9) rfl dX8_fetch_9 ?_
  refine lv_iload_n hx hb dX8_fetch_12 rfl (lv_at hl 0 rfl) ?_
  refine lv_aload_n hx hb dX8_fetch_13 rfl (lv_at hl 1 rfl) ?_
  refine va_get (D := (dC, dI)) (ci := 8) (v := .ref (AM 4)) (C := RX8) (T := TX8) (N := 17) hx hb hts inw_X8_fetch_X8 hown hK hP 0 rfl rfl 4 (by decide) (hts (.fieldLink RX8 19 "DuelFramesModel" "kept" "[I") (List.mem_of_getElem? (i := 2) rfl)) (fun _ h9 => h9) rfl dX8_fetch_14 ?_
  refine lv_bipush (v := 22) hx hb dX8_fetch_17 (by decide) ?_
  refine lv_iload_n hx hb dX8_fetch_19 rfl (lv_at hl 2 rfl) ?_
  refine lv_imul hx hb dX8_fetch_20 ?_
  refine lv_iload_n hx hb dX8_fetch_21 rfl (lv_at hl 0 rfl) ?_
  refine lv_iadd hx hb dX8_fetch_22 ?_
  refine va_iald hx hb hK hP 4 0 rfl rfl (kp_in hd5 (vin rfl)) dX8_fetch_23 ?_
  refine lv_topi (fun x_30 ex_30 => ?_)
  obtain rfl : x_30 = (kp ((22 * depth) + 14).toNatClampNeg) := ex_30
  refine va_iast hx hb hK hP hD hS 2 0 rfl rfl (vin rfl) dX8_fetch_24 (fun H locs hP1 hD1 hS1 => ?_)
  clear hP hD hS
  have hP : va_P (dC, dI) vwCl [(m0, .inr (8, mdL AM g)), (AM 0, .inl (cY 0, 72, .inl tb)), (AM 2, .inl (cY 0, 22, .inl (upd (upd (upd (upd (upd (upd (upd (upd (upd (upd (upd (upd (upd (upd (upd sA 0 (kp ((22 * depth) + 0).toNatClampNeg)) 1 (kp ((22 * depth) + 1).toNatClampNeg)) 2 (kp ((22 * depth) + 2).toNatClampNeg)) 3 (kp ((22 * depth) + 3).toNatClampNeg)) 4 (kp ((22 * depth) + 4).toNatClampNeg)) 5 (kp ((22 * depth) + 5).toNatClampNeg)) 6 (kp ((22 * depth) + 6).toNatClampNeg)) 7 (kp ((22 * depth) + 7).toNatClampNeg)) 8 (kp ((22 * depth) + 8).toNatClampNeg)) 9 (kp ((22 * depth) + 9).toNatClampNeg)) 10 (kp ((22 * depth) + 10).toNatClampNeg)) 11 (kp ((22 * depth) + 11).toNatClampNeg)) 12 (kp ((22 * depth) + 12).toNatClampNeg)) 13 (kp ((22 * depth) + 13).toNatClampNeg)) 14 (kp ((22 * depth) + 14).toNatClampNeg)))), (AM 3, .inl (cY 0, 22, .inl rd)), (AM 4, .inl (cY 0, 110, .inl kp)), (AM 5, .inl (cY 0, 8414, .inl td)), (AM 6, .inl (cY 0, 2, .inl wn)), (AM 13, .inl (cY 0, 4, .inl rw)), (AM 14, .inl (cY 0, 4, .inl br))] H := hP1
  have hD : va_D A [(m0, .inr (8, mdL AM g)), (AM 0, .inl (cY 0, 72, .inl tb)), (AM 2, .inl (cY 0, 22, .inl (upd (upd (upd (upd (upd (upd (upd (upd (upd (upd (upd (upd (upd (upd (upd sA 0 (kp ((22 * depth) + 0).toNatClampNeg)) 1 (kp ((22 * depth) + 1).toNatClampNeg)) 2 (kp ((22 * depth) + 2).toNatClampNeg)) 3 (kp ((22 * depth) + 3).toNatClampNeg)) 4 (kp ((22 * depth) + 4).toNatClampNeg)) 5 (kp ((22 * depth) + 5).toNatClampNeg)) 6 (kp ((22 * depth) + 6).toNatClampNeg)) 7 (kp ((22 * depth) + 7).toNatClampNeg)) 8 (kp ((22 * depth) + 8).toNatClampNeg)) 9 (kp ((22 * depth) + 9).toNatClampNeg)) 10 (kp ((22 * depth) + 10).toNatClampNeg)) 11 (kp ((22 * depth) + 11).toNatClampNeg)) 12 (kp ((22 * depth) + 12).toNatClampNeg)) 13 (kp ((22 * depth) + 13).toNatClampNeg)) 14 (kp ((22 * depth) + 14).toNatClampNeg)))), (AM 3, .inl (cY 0, 22, .inl rd)), (AM 4, .inl (cY 0, 110, .inl kp)), (AM 5, .inl (cY 0, 8414, .inl td)), (AM 6, .inl (cY 0, 2, .inl wn)), (AM 13, .inl (cY 0, 4, .inl rw)), (AM 14, .inl (cY 0, 4, .inl br))] := hD1
  have hS := hS1
  clear hP1 hD1 hS1
  refine lv_iinc (v := 15) (lv' := [(2, .int 15), (0, .ref m0), (1, .int depth)]) hx hb dX8_fetch_25 hl (k := 0) rfl (by first | rfl | decide) (by decide) rfl (fun ls hl => ?_)
  refine lv_goto (tgt := 2) hx hb dX8_fetch_28 (by decide) ?_
  refine lv_iload_n hx hb dX8_fetch_2 rfl (lv_at hl 0 rfl) ?_
  refine lv_bipush (v := 22) hx hb dX8_fetch_3 (by decide) ?_
  refine lv_icmp_ge (tgt := 31) hx hb dX8_fetch_5 (by decide) (fun c_31 => ?_) (fun c_31 => ?_)
  · exact absurd c_31 (by decide)
  refine lv_aload_n hx hb dX8_fetch_8 rfl (lv_at hl 1 rfl) ?_
  refine va_get (D := (dC, dI)) (ci := 8) (v := .ref (AM 2)) (C := RX8) (T := TX8) (N := 17) hx hb hts inw_X8_fetch_X8 hown hK hP 0 rfl rfl 2 (by decide) (hts (.fieldLink RX8 13 "DuelFramesModel" "s" "[I") (List.mem_of_getElem? (i := 1) rfl)) (fun _ h9 => h9) rfl dX8_fetch_9 ?_
  refine lv_iload_n hx hb dX8_fetch_12 rfl (lv_at hl 0 rfl) ?_
  refine lv_aload_n hx hb dX8_fetch_13 rfl (lv_at hl 1 rfl) ?_
  refine va_get (D := (dC, dI)) (ci := 8) (v := .ref (AM 4)) (C := RX8) (T := TX8) (N := 17) hx hb hts inw_X8_fetch_X8 hown hK hP 0 rfl rfl 4 (by decide) (hts (.fieldLink RX8 19 "DuelFramesModel" "kept" "[I") (List.mem_of_getElem? (i := 2) rfl)) (fun _ h9 => h9) rfl dX8_fetch_14 ?_
  refine lv_bipush (v := 22) hx hb dX8_fetch_17 (by decide) ?_
  refine lv_iload_n hx hb dX8_fetch_19 rfl (lv_at hl 2 rfl) ?_
  refine lv_imul hx hb dX8_fetch_20 ?_
  refine lv_iload_n hx hb dX8_fetch_21 rfl (lv_at hl 0 rfl) ?_
  refine lv_iadd hx hb dX8_fetch_22 ?_
  refine va_iald hx hb hK hP 4 0 rfl rfl (kp_in hd5 (vin rfl)) dX8_fetch_23 ?_
  refine lv_topi (fun x_32 ex_32 => ?_)
  obtain rfl : x_32 = (kp ((22 * depth) + 15).toNatClampNeg) := ex_32
  refine va_iast hx hb hK hP hD hS 2 0 rfl rfl (vin rfl) dX8_fetch_24 (fun H locs hP1 hD1 hS1 => ?_)
  clear hP hD hS
  have hP : va_P (dC, dI) vwCl [(m0, .inr (8, mdL AM g)), (AM 0, .inl (cY 0, 72, .inl tb)), (AM 2, .inl (cY 0, 22, .inl (upd (upd (upd (upd (upd (upd (upd (upd (upd (upd (upd (upd (upd (upd (upd (upd sA 0 (kp ((22 * depth) + 0).toNatClampNeg)) 1 (kp ((22 * depth) + 1).toNatClampNeg)) 2 (kp ((22 * depth) + 2).toNatClampNeg)) 3 (kp ((22 * depth) + 3).toNatClampNeg)) 4 (kp ((22 * depth) + 4).toNatClampNeg)) 5 (kp ((22 * depth) + 5).toNatClampNeg)) 6 (kp ((22 * depth) + 6).toNatClampNeg)) 7 (kp ((22 * depth) + 7).toNatClampNeg)) 8 (kp ((22 * depth) + 8).toNatClampNeg)) 9 (kp ((22 * depth) + 9).toNatClampNeg)) 10 (kp ((22 * depth) + 10).toNatClampNeg)) 11 (kp ((22 * depth) + 11).toNatClampNeg)) 12 (kp ((22 * depth) + 12).toNatClampNeg)) 13 (kp ((22 * depth) + 13).toNatClampNeg)) 14 (kp ((22 * depth) + 14).toNatClampNeg)) 15 (kp ((22 * depth) + 15).toNatClampNeg)))), (AM 3, .inl (cY 0, 22, .inl rd)), (AM 4, .inl (cY 0, 110, .inl kp)), (AM 5, .inl (cY 0, 8414, .inl td)), (AM 6, .inl (cY 0, 2, .inl wn)), (AM 13, .inl (cY 0, 4, .inl rw)), (AM 14, .inl (cY 0, 4, .inl br))] H := hP1
  have hD : va_D A [(m0, .inr (8, mdL AM g)), (AM 0, .inl (cY 0, 72, .inl tb)), (AM 2, .inl (cY 0, 22, .inl (upd (upd (upd (upd (upd (upd (upd (upd (upd (upd (upd (upd (upd (upd (upd (upd sA 0 (kp ((22 * depth) + 0).toNatClampNeg)) 1 (kp ((22 * depth) + 1).toNatClampNeg)) 2 (kp ((22 * depth) + 2).toNatClampNeg)) 3 (kp ((22 * depth) + 3).toNatClampNeg)) 4 (kp ((22 * depth) + 4).toNatClampNeg)) 5 (kp ((22 * depth) + 5).toNatClampNeg)) 6 (kp ((22 * depth) + 6).toNatClampNeg)) 7 (kp ((22 * depth) + 7).toNatClampNeg)) 8 (kp ((22 * depth) + 8).toNatClampNeg)) 9 (kp ((22 * depth) + 9).toNatClampNeg)) 10 (kp ((22 * depth) + 10).toNatClampNeg)) 11 (kp ((22 * depth) + 11).toNatClampNeg)) 12 (kp ((22 * depth) + 12).toNatClampNeg)) 13 (kp ((22 * depth) + 13).toNatClampNeg)) 14 (kp ((22 * depth) + 14).toNatClampNeg)) 15 (kp ((22 * depth) + 15).toNatClampNeg)))), (AM 3, .inl (cY 0, 22, .inl rd)), (AM 4, .inl (cY 0, 110, .inl kp)), (AM 5, .inl (cY 0, 8414, .inl td)), (AM 6, .inl (cY 0, 2, .inl wn)), (AM 13, .inl (cY 0, 4, .inl rw)), (AM 14, .inl (cY 0, 4, .inl br))] := hD1
  have hS := hS1
  clear hP1 hD1 hS1
  refine lv_iinc (v := 16) (lv' := [(2, .int 16), (0, .ref m0), (1, .int depth)]) hx hb dX8_fetch_25 hl (k := 0) rfl (by first | rfl | decide) (by decide) rfl (fun ls hl => ?_)
  refine lv_goto (tgt := 2) hx hb dX8_fetch_28 (by decide) ?_
  refine lv_iload_n hx hb dX8_fetch_2 rfl (lv_at hl 0 rfl) ?_
  refine lv_bipush (v := 22) hx hb dX8_fetch_3 (by decide) ?_
  refine lv_icmp_ge (tgt := 31) hx hb dX8_fetch_5 (by decide) (fun c_33 => ?_) (fun c_33 => ?_)
  · exact absurd c_33 (by decide)
  refine lv_aload_n hx hb dX8_fetch_8 rfl (lv_at hl 1 rfl) ?_
  refine va_get (D := (dC, dI)) (ci := 8) (v := .ref (AM 2)) (C := RX8) (T := TX8) (N := 17) hx hb hts inw_X8_fetch_X8 hown hK hP 0 rfl rfl 2 (by decide) (hts (.fieldLink RX8 13 "DuelFramesModel" "s" "[I") (List.mem_of_getElem? (i := 1) rfl)) (fun _ h9 => h9) rfl dX8_fetch_9 ?_
  refine lv_iload_n hx hb dX8_fetch_12 rfl (lv_at hl 0 rfl) ?_
  refine lv_aload_n hx hb dX8_fetch_13 rfl (lv_at hl 1 rfl) ?_
  refine va_get (D := (dC, dI)) (ci := 8) (v := .ref (AM 4)) (C := RX8) (T := TX8) (N := 17) hx hb hts inw_X8_fetch_X8 hown hK hP 0 rfl rfl 4 (by decide) (hts (.fieldLink RX8 19 "DuelFramesModel" "kept" "[I") (List.mem_of_getElem? (i := 2) rfl)) (fun _ h9 => h9) rfl dX8_fetch_14 ?_
  refine lv_bipush (v := 22) hx hb dX8_fetch_17 (by decide) ?_
  refine lv_iload_n hx hb dX8_fetch_19 rfl (lv_at hl 2 rfl) ?_
  refine lv_imul hx hb dX8_fetch_20 ?_
  refine lv_iload_n hx hb dX8_fetch_21 rfl (lv_at hl 0 rfl) ?_
  refine lv_iadd hx hb dX8_fetch_22 ?_
  refine va_iald hx hb hK hP 4 0 rfl rfl (kp_in hd5 (vin rfl)) dX8_fetch_23 ?_
  refine lv_topi (fun x_34 ex_34 => ?_)
  obtain rfl : x_34 = (kp ((22 * depth) + 16).toNatClampNeg) := ex_34
  refine va_iast hx hb hK hP hD hS 2 0 rfl rfl (vin rfl) dX8_fetch_24 (fun H locs hP1 hD1 hS1 => ?_)
  clear hP hD hS
  have hP : va_P (dC, dI) vwCl [(m0, .inr (8, mdL AM g)), (AM 0, .inl (cY 0, 72, .inl tb)), (AM 2, .inl (cY 0, 22, .inl (upd (upd (upd (upd (upd (upd (upd (upd (upd (upd (upd (upd (upd (upd (upd (upd (upd sA 0 (kp ((22 * depth) + 0).toNatClampNeg)) 1 (kp ((22 * depth) + 1).toNatClampNeg)) 2 (kp ((22 * depth) + 2).toNatClampNeg)) 3 (kp ((22 * depth) + 3).toNatClampNeg)) 4 (kp ((22 * depth) + 4).toNatClampNeg)) 5 (kp ((22 * depth) + 5).toNatClampNeg)) 6 (kp ((22 * depth) + 6).toNatClampNeg)) 7 (kp ((22 * depth) + 7).toNatClampNeg)) 8 (kp ((22 * depth) + 8).toNatClampNeg)) 9 (kp ((22 * depth) + 9).toNatClampNeg)) 10 (kp ((22 * depth) + 10).toNatClampNeg)) 11 (kp ((22 * depth) + 11).toNatClampNeg)) 12 (kp ((22 * depth) + 12).toNatClampNeg)) 13 (kp ((22 * depth) + 13).toNatClampNeg)) 14 (kp ((22 * depth) + 14).toNatClampNeg)) 15 (kp ((22 * depth) + 15).toNatClampNeg)) 16 (kp ((22 * depth) + 16).toNatClampNeg)))), (AM 3, .inl (cY 0, 22, .inl rd)), (AM 4, .inl (cY 0, 110, .inl kp)), (AM 5, .inl (cY 0, 8414, .inl td)), (AM 6, .inl (cY 0, 2, .inl wn)), (AM 13, .inl (cY 0, 4, .inl rw)), (AM 14, .inl (cY 0, 4, .inl br))] H := hP1
  have hD : va_D A [(m0, .inr (8, mdL AM g)), (AM 0, .inl (cY 0, 72, .inl tb)), (AM 2, .inl (cY 0, 22, .inl (upd (upd (upd (upd (upd (upd (upd (upd (upd (upd (upd (upd (upd (upd (upd (upd (upd sA 0 (kp ((22 * depth) + 0).toNatClampNeg)) 1 (kp ((22 * depth) + 1).toNatClampNeg)) 2 (kp ((22 * depth) + 2).toNatClampNeg)) 3 (kp ((22 * depth) + 3).toNatClampNeg)) 4 (kp ((22 * depth) + 4).toNatClampNeg)) 5 (kp ((22 * depth) + 5).toNatClampNeg)) 6 (kp ((22 * depth) + 6).toNatClampNeg)) 7 (kp ((22 * depth) + 7).toNatClampNeg)) 8 (kp ((22 * depth) + 8).toNatClampNeg)) 9 (kp ((22 * depth) + 9).toNatClampNeg)) 10 (kp ((22 * depth) + 10).toNatClampNeg)) 11 (kp ((22 * depth) + 11).toNatClampNeg)) 12 (kp ((22 * depth) + 12).toNatClampNeg)) 13 (kp ((22 * depth) + 13).toNatClampNeg)) 14 (kp ((22 * depth) + 14).toNatClampNeg)) 15 (kp ((22 * depth) + 15).toNatClampNeg)) 16 (kp ((22 * depth) + 16).toNatClampNeg)))), (AM 3, .inl (cY 0, 22, .inl rd)), (AM 4, .inl (cY 0, 110, .inl kp)), (AM 5, .inl (cY 0, 8414, .inl td)), (AM 6, .inl (cY 0, 2, .inl wn)), (AM 13, .inl (cY 0, 4, .inl rw)), (AM 14, .inl (cY 0, 4, .inl br))] := hD1
  have hS := hS1
  clear hP1 hD1 hS1
  refine lv_iinc (v := 17) (lv' := [(2, .int 17), (0, .ref m0), (1, .int depth)]) hx hb dX8_fetch_25 hl (k := 0) rfl (by first | rfl | decide) (by decide) rfl (fun ls hl => ?_)
  refine lv_goto (tgt := 2) hx hb dX8_fetch_28 (by decide) ?_
  refine lv_iload_n hx hb dX8_fetch_2 rfl (lv_at hl 0 rfl) ?_
  refine lv_bipush (v := 22) hx hb dX8_fetch_3 (by decide) ?_
  refine lv_icmp_ge (tgt := 31) hx hb dX8_fetch_5 (by decide) (fun c_35 => ?_) (fun c_35 => ?_)
  · exact absurd c_35 (by decide)
  refine lv_aload_n hx hb dX8_fetch_8 rfl (lv_at hl 1 rfl) ?_
  refine va_get (D := (dC, dI)) (ci := 8) (v := .ref (AM 2)) (C := RX8) (T := TX8) (N := 17) hx hb hts inw_X8_fetch_X8 hown hK hP 0 rfl rfl 2 (by decide) (hts (.fieldLink RX8 13 "DuelFramesModel" "s" "[I") (List.mem_of_getElem? (i := 1) rfl)) (fun _ h9 => h9) rfl dX8_fetch_9 ?_
  refine lv_iload_n hx hb dX8_fetch_12 rfl (lv_at hl 0 rfl) ?_
  refine lv_aload_n hx hb dX8_fetch_13 rfl (lv_at hl 1 rfl) ?_
  refine va_get (D := (dC, dI)) (ci := 8) (v := .ref (AM 4)) (C := RX8) (T := TX8) (N := 17) hx hb hts inw_X8_fetch_X8 hown hK hP 0 rfl rfl 4 (by decide) (hts (.fieldLink RX8 19 "DuelFramesModel" "kept" "[I") (List.mem_of_getElem? (i := 2) rfl)) (fun _ h9 => h9) rfl dX8_fetch_14 ?_
  refine lv_bipush (v := 22) hx hb dX8_fetch_17 (by decide) ?_
  refine lv_iload_n hx hb dX8_fetch_19 rfl (lv_at hl 2 rfl) ?_
  refine lv_imul hx hb dX8_fetch_20 ?_
  refine lv_iload_n hx hb dX8_fetch_21 rfl (lv_at hl 0 rfl) ?_
  refine lv_iadd hx hb dX8_fetch_22 ?_
  refine va_iald hx hb hK hP 4 0 rfl rfl (kp_in hd5 (vin rfl)) dX8_fetch_23 ?_
  refine lv_topi (fun x_36 ex_36 => ?_)
  obtain rfl : x_36 = (kp ((22 * depth) + 17).toNatClampNeg) := ex_36
  refine va_iast hx hb hK hP hD hS 2 0 rfl rfl (vin rfl) dX8_fetch_24 (fun H locs hP1 hD1 hS1 => ?_)
  clear hP hD hS
  have hP : va_P (dC, dI) vwCl [(m0, .inr (8, mdL AM g)), (AM 0, .inl (cY 0, 72, .inl tb)), (AM 2, .inl (cY 0, 22, .inl (upd (upd (upd (upd (upd (upd (upd (upd (upd (upd (upd (upd (upd (upd (upd (upd (upd (upd sA 0 (kp ((22 * depth) + 0).toNatClampNeg)) 1 (kp ((22 * depth) + 1).toNatClampNeg)) 2 (kp ((22 * depth) + 2).toNatClampNeg)) 3 (kp ((22 * depth) + 3).toNatClampNeg)) 4 (kp ((22 * depth) + 4).toNatClampNeg)) 5 (kp ((22 * depth) + 5).toNatClampNeg)) 6 (kp ((22 * depth) + 6).toNatClampNeg)) 7 (kp ((22 * depth) + 7).toNatClampNeg)) 8 (kp ((22 * depth) + 8).toNatClampNeg)) 9 (kp ((22 * depth) + 9).toNatClampNeg)) 10 (kp ((22 * depth) + 10).toNatClampNeg)) 11 (kp ((22 * depth) + 11).toNatClampNeg)) 12 (kp ((22 * depth) + 12).toNatClampNeg)) 13 (kp ((22 * depth) + 13).toNatClampNeg)) 14 (kp ((22 * depth) + 14).toNatClampNeg)) 15 (kp ((22 * depth) + 15).toNatClampNeg)) 16 (kp ((22 * depth) + 16).toNatClampNeg)) 17 (kp ((22 * depth) + 17).toNatClampNeg)))), (AM 3, .inl (cY 0, 22, .inl rd)), (AM 4, .inl (cY 0, 110, .inl kp)), (AM 5, .inl (cY 0, 8414, .inl td)), (AM 6, .inl (cY 0, 2, .inl wn)), (AM 13, .inl (cY 0, 4, .inl rw)), (AM 14, .inl (cY 0, 4, .inl br))] H := hP1
  have hD : va_D A [(m0, .inr (8, mdL AM g)), (AM 0, .inl (cY 0, 72, .inl tb)), (AM 2, .inl (cY 0, 22, .inl (upd (upd (upd (upd (upd (upd (upd (upd (upd (upd (upd (upd (upd (upd (upd (upd (upd (upd sA 0 (kp ((22 * depth) + 0).toNatClampNeg)) 1 (kp ((22 * depth) + 1).toNatClampNeg)) 2 (kp ((22 * depth) + 2).toNatClampNeg)) 3 (kp ((22 * depth) + 3).toNatClampNeg)) 4 (kp ((22 * depth) + 4).toNatClampNeg)) 5 (kp ((22 * depth) + 5).toNatClampNeg)) 6 (kp ((22 * depth) + 6).toNatClampNeg)) 7 (kp ((22 * depth) + 7).toNatClampNeg)) 8 (kp ((22 * depth) + 8).toNatClampNeg)) 9 (kp ((22 * depth) + 9).toNatClampNeg)) 10 (kp ((22 * depth) + 10).toNatClampNeg)) 11 (kp ((22 * depth) + 11).toNatClampNeg)) 12 (kp ((22 * depth) + 12).toNatClampNeg)) 13 (kp ((22 * depth) + 13).toNatClampNeg)) 14 (kp ((22 * depth) + 14).toNatClampNeg)) 15 (kp ((22 * depth) + 15).toNatClampNeg)) 16 (kp ((22 * depth) + 16).toNatClampNeg)) 17 (kp ((22 * depth) + 17).toNatClampNeg)))), (AM 3, .inl (cY 0, 22, .inl rd)), (AM 4, .inl (cY 0, 110, .inl kp)), (AM 5, .inl (cY 0, 8414, .inl td)), (AM 6, .inl (cY 0, 2, .inl wn)), (AM 13, .inl (cY 0, 4, .inl rw)), (AM 14, .inl (cY 0, 4, .inl br))] := hD1
  have hS := hS1
  clear hP1 hD1 hS1
  refine lv_iinc (v := 18) (lv' := [(2, .int 18), (0, .ref m0), (1, .int depth)]) hx hb dX8_fetch_25 hl (k := 0) rfl (by first | rfl | decide) (by decide) rfl (fun ls hl => ?_)
  refine lv_goto (tgt := 2) hx hb dX8_fetch_28 (by decide) ?_
  refine lv_iload_n hx hb dX8_fetch_2 rfl (lv_at hl 0 rfl) ?_
  refine lv_bipush (v := 22) hx hb dX8_fetch_3 (by decide) ?_
  refine lv_icmp_ge (tgt := 31) hx hb dX8_fetch_5 (by decide) (fun c_37 => ?_) (fun c_37 => ?_)
  · exact absurd c_37 (by decide)
  refine lv_aload_n hx hb dX8_fetch_8 rfl (lv_at hl 1 rfl) ?_
  refine va_get (D := (dC, dI)) (ci := 8) (v := .ref (AM 2)) (C := RX8) (T := TX8) (N := 17) hx hb hts inw_X8_fetch_X8 hown hK hP 0 rfl rfl 2 (by decide) (hts (.fieldLink RX8 13 "DuelFramesModel" "s" "[I") (List.mem_of_getElem? (i := 1) rfl)) (fun _ h9 => h9) rfl dX8_fetch_9 ?_
  refine lv_iload_n hx hb dX8_fetch_12 rfl (lv_at hl 0 rfl) ?_
  refine lv_aload_n hx hb dX8_fetch_13 rfl (lv_at hl 1 rfl) ?_
  refine va_get (D := (dC, dI)) (ci := 8) (v := .ref (AM 4)) (C := RX8) (T := TX8) (N := 17) hx hb hts inw_X8_fetch_X8 hown hK hP 0 rfl rfl 4 (by decide) (hts (.fieldLink RX8 19 "DuelFramesModel" "kept" "[I") (List.mem_of_getElem? (i := 2) rfl)) (fun _ h9 => h9) rfl dX8_fetch_14 ?_
  refine lv_bipush (v := 22) hx hb dX8_fetch_17 (by decide) ?_
  refine lv_iload_n hx hb dX8_fetch_19 rfl (lv_at hl 2 rfl) ?_
  refine lv_imul hx hb dX8_fetch_20 ?_
  refine lv_iload_n hx hb dX8_fetch_21 rfl (lv_at hl 0 rfl) ?_
  refine lv_iadd hx hb dX8_fetch_22 ?_
  refine va_iald hx hb hK hP 4 0 rfl rfl (kp_in hd5 (vin rfl)) dX8_fetch_23 ?_
  refine lv_topi (fun x_38 ex_38 => ?_)
  obtain rfl : x_38 = (kp ((22 * depth) + 18).toNatClampNeg) := ex_38
  refine va_iast hx hb hK hP hD hS 2 0 rfl rfl (vin rfl) dX8_fetch_24 (fun H locs hP1 hD1 hS1 => ?_)
  clear hP hD hS
  have hP : va_P (dC, dI) vwCl [(m0, .inr (8, mdL AM g)), (AM 0, .inl (cY 0, 72, .inl tb)), (AM 2, .inl (cY 0, 22, .inl (upd (upd (upd (upd (upd (upd (upd (upd (upd (upd (upd (upd (upd (upd (upd (upd (upd (upd (upd sA 0 (kp ((22 * depth) + 0).toNatClampNeg)) 1 (kp ((22 * depth) + 1).toNatClampNeg)) 2 (kp ((22 * depth) + 2).toNatClampNeg)) 3 (kp ((22 * depth) + 3).toNatClampNeg)) 4 (kp ((22 * depth) + 4).toNatClampNeg)) 5 (kp ((22 * depth) + 5).toNatClampNeg)) 6 (kp ((22 * depth) + 6).toNatClampNeg)) 7 (kp ((22 * depth) + 7).toNatClampNeg)) 8 (kp ((22 * depth) + 8).toNatClampNeg)) 9 (kp ((22 * depth) + 9).toNatClampNeg)) 10 (kp ((22 * depth) + 10).toNatClampNeg)) 11 (kp ((22 * depth) + 11).toNatClampNeg)) 12 (kp ((22 * depth) + 12).toNatClampNeg)) 13 (kp ((22 * depth) + 13).toNatClampNeg)) 14 (kp ((22 * depth) + 14).toNatClampNeg)) 15 (kp ((22 * depth) + 15).toNatClampNeg)) 16 (kp ((22 * depth) + 16).toNatClampNeg)) 17 (kp ((22 * depth) + 17).toNatClampNeg)) 18 (kp ((22 * depth) + 18).toNatClampNeg)))), (AM 3, .inl (cY 0, 22, .inl rd)), (AM 4, .inl (cY 0, 110, .inl kp)), (AM 5, .inl (cY 0, 8414, .inl td)), (AM 6, .inl (cY 0, 2, .inl wn)), (AM 13, .inl (cY 0, 4, .inl rw)), (AM 14, .inl (cY 0, 4, .inl br))] H := hP1
  have hD : va_D A [(m0, .inr (8, mdL AM g)), (AM 0, .inl (cY 0, 72, .inl tb)), (AM 2, .inl (cY 0, 22, .inl (upd (upd (upd (upd (upd (upd (upd (upd (upd (upd (upd (upd (upd (upd (upd (upd (upd (upd (upd sA 0 (kp ((22 * depth) + 0).toNatClampNeg)) 1 (kp ((22 * depth) + 1).toNatClampNeg)) 2 (kp ((22 * depth) + 2).toNatClampNeg)) 3 (kp ((22 * depth) + 3).toNatClampNeg)) 4 (kp ((22 * depth) + 4).toNatClampNeg)) 5 (kp ((22 * depth) + 5).toNatClampNeg)) 6 (kp ((22 * depth) + 6).toNatClampNeg)) 7 (kp ((22 * depth) + 7).toNatClampNeg)) 8 (kp ((22 * depth) + 8).toNatClampNeg)) 9 (kp ((22 * depth) + 9).toNatClampNeg)) 10 (kp ((22 * depth) + 10).toNatClampNeg)) 11 (kp ((22 * depth) + 11).toNatClampNeg)) 12 (kp ((22 * depth) + 12).toNatClampNeg)) 13 (kp ((22 * depth) + 13).toNatClampNeg)) 14 (kp ((22 * depth) + 14).toNatClampNeg)) 15 (kp ((22 * depth) + 15).toNatClampNeg)) 16 (kp ((22 * depth) + 16).toNatClampNeg)) 17 (kp ((22 * depth) + 17).toNatClampNeg)) 18 (kp ((22 * depth) + 18).toNatClampNeg)))), (AM 3, .inl (cY 0, 22, .inl rd)), (AM 4, .inl (cY 0, 110, .inl kp)), (AM 5, .inl (cY 0, 8414, .inl td)), (AM 6, .inl (cY 0, 2, .inl wn)), (AM 13, .inl (cY 0, 4, .inl rw)), (AM 14, .inl (cY 0, 4, .inl br))] := hD1
  have hS := hS1
  clear hP1 hD1 hS1
  refine lv_iinc (v := 19) (lv' := [(2, .int 19), (0, .ref m0), (1, .int depth)]) hx hb dX8_fetch_25 hl (k := 0) rfl (by first | rfl | decide) (by decide) rfl (fun ls hl => ?_)
  refine lv_goto (tgt := 2) hx hb dX8_fetch_28 (by decide) ?_
  refine lv_iload_n hx hb dX8_fetch_2 rfl (lv_at hl 0 rfl) ?_
  refine lv_bipush (v := 22) hx hb dX8_fetch_3 (by decide) ?_
  refine lv_icmp_ge (tgt := 31) hx hb dX8_fetch_5 (by decide) (fun c_39 => ?_) (fun c_39 => ?_)
  · exact absurd c_39 (by decide)
  refine lv_aload_n hx hb dX8_fetch_8 rfl (lv_at hl 1 rfl) ?_
  refine va_get (D := (dC, dI)) (ci := 8) (v := .ref (AM 2)) (C := RX8) (T := TX8) (N := 17) hx hb hts inw_X8_fetch_X8 hown hK hP 0 rfl rfl 2 (by decide) (hts (.fieldLink RX8 13 "DuelFramesModel" "s" "[I") (List.mem_of_getElem? (i := 1) rfl)) (fun _ h9 => h9) rfl dX8_fetch_9 ?_
  refine lv_iload_n hx hb dX8_fetch_12 rfl (lv_at hl 0 rfl) ?_
  refine lv_aload_n hx hb dX8_fetch_13 rfl (lv_at hl 1 rfl) ?_
  refine va_get (D := (dC, dI)) (ci := 8) (v := .ref (AM 4)) (C := RX8) (T := TX8) (N := 17) hx hb hts inw_X8_fetch_X8 hown hK hP 0 rfl rfl 4 (by decide) (hts (.fieldLink RX8 19 "DuelFramesModel" "kept" "[I") (List.mem_of_getElem? (i := 2) rfl)) (fun _ h9 => h9) rfl dX8_fetch_14 ?_
  refine lv_bipush (v := 22) hx hb dX8_fetch_17 (by decide) ?_
  refine lv_iload_n hx hb dX8_fetch_19 rfl (lv_at hl 2 rfl) ?_
  refine lv_imul hx hb dX8_fetch_20 ?_
  refine lv_iload_n hx hb dX8_fetch_21 rfl (lv_at hl 0 rfl) ?_
  refine lv_iadd hx hb dX8_fetch_22 ?_
  refine va_iald hx hb hK hP 4 0 rfl rfl (kp_in hd5 (vin rfl)) dX8_fetch_23 ?_
  refine lv_topi (fun x_40 ex_40 => ?_)
  obtain rfl : x_40 = (kp ((22 * depth) + 19).toNatClampNeg) := ex_40
  refine va_iast hx hb hK hP hD hS 2 0 rfl rfl (vin rfl) dX8_fetch_24 (fun H locs hP1 hD1 hS1 => ?_)
  clear hP hD hS
  have hP : va_P (dC, dI) vwCl [(m0, .inr (8, mdL AM g)), (AM 0, .inl (cY 0, 72, .inl tb)), (AM 2, .inl (cY 0, 22, .inl (upd (upd (upd (upd (upd (upd (upd (upd (upd (upd (upd (upd (upd (upd (upd (upd (upd (upd (upd (upd sA 0 (kp ((22 * depth) + 0).toNatClampNeg)) 1 (kp ((22 * depth) + 1).toNatClampNeg)) 2 (kp ((22 * depth) + 2).toNatClampNeg)) 3 (kp ((22 * depth) + 3).toNatClampNeg)) 4 (kp ((22 * depth) + 4).toNatClampNeg)) 5 (kp ((22 * depth) + 5).toNatClampNeg)) 6 (kp ((22 * depth) + 6).toNatClampNeg)) 7 (kp ((22 * depth) + 7).toNatClampNeg)) 8 (kp ((22 * depth) + 8).toNatClampNeg)) 9 (kp ((22 * depth) + 9).toNatClampNeg)) 10 (kp ((22 * depth) + 10).toNatClampNeg)) 11 (kp ((22 * depth) + 11).toNatClampNeg)) 12 (kp ((22 * depth) + 12).toNatClampNeg)) 13 (kp ((22 * depth) + 13).toNatClampNeg)) 14 (kp ((22 * depth) + 14).toNatClampNeg)) 15 (kp ((22 * depth) + 15).toNatClampNeg)) 16 (kp ((22 * depth) + 16).toNatClampNeg)) 17 (kp ((22 * depth) + 17).toNatClampNeg)) 18 (kp ((22 * depth) + 18).toNatClampNeg)) 19 (kp ((22 * depth) + 19).toNatClampNeg)))), (AM 3, .inl (cY 0, 22, .inl rd)), (AM 4, .inl (cY 0, 110, .inl kp)), (AM 5, .inl (cY 0, 8414, .inl td)), (AM 6, .inl (cY 0, 2, .inl wn)), (AM 13, .inl (cY 0, 4, .inl rw)), (AM 14, .inl (cY 0, 4, .inl br))] H := hP1
  have hD : va_D A [(m0, .inr (8, mdL AM g)), (AM 0, .inl (cY 0, 72, .inl tb)), (AM 2, .inl (cY 0, 22, .inl (upd (upd (upd (upd (upd (upd (upd (upd (upd (upd (upd (upd (upd (upd (upd (upd (upd (upd (upd (upd sA 0 (kp ((22 * depth) + 0).toNatClampNeg)) 1 (kp ((22 * depth) + 1).toNatClampNeg)) 2 (kp ((22 * depth) + 2).toNatClampNeg)) 3 (kp ((22 * depth) + 3).toNatClampNeg)) 4 (kp ((22 * depth) + 4).toNatClampNeg)) 5 (kp ((22 * depth) + 5).toNatClampNeg)) 6 (kp ((22 * depth) + 6).toNatClampNeg)) 7 (kp ((22 * depth) + 7).toNatClampNeg)) 8 (kp ((22 * depth) + 8).toNatClampNeg)) 9 (kp ((22 * depth) + 9).toNatClampNeg)) 10 (kp ((22 * depth) + 10).toNatClampNeg)) 11 (kp ((22 * depth) + 11).toNatClampNeg)) 12 (kp ((22 * depth) + 12).toNatClampNeg)) 13 (kp ((22 * depth) + 13).toNatClampNeg)) 14 (kp ((22 * depth) + 14).toNatClampNeg)) 15 (kp ((22 * depth) + 15).toNatClampNeg)) 16 (kp ((22 * depth) + 16).toNatClampNeg)) 17 (kp ((22 * depth) + 17).toNatClampNeg)) 18 (kp ((22 * depth) + 18).toNatClampNeg)) 19 (kp ((22 * depth) + 19).toNatClampNeg)))), (AM 3, .inl (cY 0, 22, .inl rd)), (AM 4, .inl (cY 0, 110, .inl kp)), (AM 5, .inl (cY 0, 8414, .inl td)), (AM 6, .inl (cY 0, 2, .inl wn)), (AM 13, .inl (cY 0, 4, .inl rw)), (AM 14, .inl (cY 0, 4, .inl br))] := hD1
  have hS := hS1
  clear hP1 hD1 hS1
  refine lv_iinc (v := 20) (lv' := [(2, .int 20), (0, .ref m0), (1, .int depth)]) hx hb dX8_fetch_25 hl (k := 0) rfl (by first | rfl | decide) (by decide) rfl (fun ls hl => ?_)
  refine lv_goto (tgt := 2) hx hb dX8_fetch_28 (by decide) ?_
  refine lv_iload_n hx hb dX8_fetch_2 rfl (lv_at hl 0 rfl) ?_
  refine lv_bipush (v := 22) hx hb dX8_fetch_3 (by decide) ?_
  refine lv_icmp_ge (tgt := 31) hx hb dX8_fetch_5 (by decide) (fun c_41 => ?_) (fun c_41 => ?_)
  · exact absurd c_41 (by decide)
  refine lv_aload_n hx hb dX8_fetch_8 rfl (lv_at hl 1 rfl) ?_
  refine va_get (D := (dC, dI)) (ci := 8) (v := .ref (AM 2)) (C := RX8) (T := TX8) (N := 17) hx hb hts inw_X8_fetch_X8 hown hK hP 0 rfl rfl 2 (by decide) (hts (.fieldLink RX8 13 "DuelFramesModel" "s" "[I") (List.mem_of_getElem? (i := 1) rfl)) (fun _ h9 => h9) rfl dX8_fetch_9 ?_
  refine lv_iload_n hx hb dX8_fetch_12 rfl (lv_at hl 0 rfl) ?_
  refine lv_aload_n hx hb dX8_fetch_13 rfl (lv_at hl 1 rfl) ?_
  refine va_get (D := (dC, dI)) (ci := 8) (v := .ref (AM 4)) (C := RX8) (T := TX8) (N := 17) hx hb hts inw_X8_fetch_X8 hown hK hP 0 rfl rfl 4 (by decide) (hts (.fieldLink RX8 19 "DuelFramesModel" "kept" "[I") (List.mem_of_getElem? (i := 2) rfl)) (fun _ h9 => h9) rfl dX8_fetch_14 ?_
  refine lv_bipush (v := 22) hx hb dX8_fetch_17 (by decide) ?_
  refine lv_iload_n hx hb dX8_fetch_19 rfl (lv_at hl 2 rfl) ?_
  refine lv_imul hx hb dX8_fetch_20 ?_
  refine lv_iload_n hx hb dX8_fetch_21 rfl (lv_at hl 0 rfl) ?_
  refine lv_iadd hx hb dX8_fetch_22 ?_
  refine va_iald hx hb hK hP 4 0 rfl rfl (kp_in hd5 (vin rfl)) dX8_fetch_23 ?_
  refine lv_topi (fun x_42 ex_42 => ?_)
  obtain rfl : x_42 = (kp ((22 * depth) + 20).toNatClampNeg) := ex_42
  refine va_iast hx hb hK hP hD hS 2 0 rfl rfl (vin rfl) dX8_fetch_24 (fun H locs hP1 hD1 hS1 => ?_)
  clear hP hD hS
  have hP : va_P (dC, dI) vwCl [(m0, .inr (8, mdL AM g)), (AM 0, .inl (cY 0, 72, .inl tb)), (AM 2, .inl (cY 0, 22, .inl (upd (upd (upd (upd (upd (upd (upd (upd (upd (upd (upd (upd (upd (upd (upd (upd (upd (upd (upd (upd (upd sA 0 (kp ((22 * depth) + 0).toNatClampNeg)) 1 (kp ((22 * depth) + 1).toNatClampNeg)) 2 (kp ((22 * depth) + 2).toNatClampNeg)) 3 (kp ((22 * depth) + 3).toNatClampNeg)) 4 (kp ((22 * depth) + 4).toNatClampNeg)) 5 (kp ((22 * depth) + 5).toNatClampNeg)) 6 (kp ((22 * depth) + 6).toNatClampNeg)) 7 (kp ((22 * depth) + 7).toNatClampNeg)) 8 (kp ((22 * depth) + 8).toNatClampNeg)) 9 (kp ((22 * depth) + 9).toNatClampNeg)) 10 (kp ((22 * depth) + 10).toNatClampNeg)) 11 (kp ((22 * depth) + 11).toNatClampNeg)) 12 (kp ((22 * depth) + 12).toNatClampNeg)) 13 (kp ((22 * depth) + 13).toNatClampNeg)) 14 (kp ((22 * depth) + 14).toNatClampNeg)) 15 (kp ((22 * depth) + 15).toNatClampNeg)) 16 (kp ((22 * depth) + 16).toNatClampNeg)) 17 (kp ((22 * depth) + 17).toNatClampNeg)) 18 (kp ((22 * depth) + 18).toNatClampNeg)) 19 (kp ((22 * depth) + 19).toNatClampNeg)) 20 (kp ((22 * depth) + 20).toNatClampNeg)))), (AM 3, .inl (cY 0, 22, .inl rd)), (AM 4, .inl (cY 0, 110, .inl kp)), (AM 5, .inl (cY 0, 8414, .inl td)), (AM 6, .inl (cY 0, 2, .inl wn)), (AM 13, .inl (cY 0, 4, .inl rw)), (AM 14, .inl (cY 0, 4, .inl br))] H := hP1
  have hD : va_D A [(m0, .inr (8, mdL AM g)), (AM 0, .inl (cY 0, 72, .inl tb)), (AM 2, .inl (cY 0, 22, .inl (upd (upd (upd (upd (upd (upd (upd (upd (upd (upd (upd (upd (upd (upd (upd (upd (upd (upd (upd (upd (upd sA 0 (kp ((22 * depth) + 0).toNatClampNeg)) 1 (kp ((22 * depth) + 1).toNatClampNeg)) 2 (kp ((22 * depth) + 2).toNatClampNeg)) 3 (kp ((22 * depth) + 3).toNatClampNeg)) 4 (kp ((22 * depth) + 4).toNatClampNeg)) 5 (kp ((22 * depth) + 5).toNatClampNeg)) 6 (kp ((22 * depth) + 6).toNatClampNeg)) 7 (kp ((22 * depth) + 7).toNatClampNeg)) 8 (kp ((22 * depth) + 8).toNatClampNeg)) 9 (kp ((22 * depth) + 9).toNatClampNeg)) 10 (kp ((22 * depth) + 10).toNatClampNeg)) 11 (kp ((22 * depth) + 11).toNatClampNeg)) 12 (kp ((22 * depth) + 12).toNatClampNeg)) 13 (kp ((22 * depth) + 13).toNatClampNeg)) 14 (kp ((22 * depth) + 14).toNatClampNeg)) 15 (kp ((22 * depth) + 15).toNatClampNeg)) 16 (kp ((22 * depth) + 16).toNatClampNeg)) 17 (kp ((22 * depth) + 17).toNatClampNeg)) 18 (kp ((22 * depth) + 18).toNatClampNeg)) 19 (kp ((22 * depth) + 19).toNatClampNeg)) 20 (kp ((22 * depth) + 20).toNatClampNeg)))), (AM 3, .inl (cY 0, 22, .inl rd)), (AM 4, .inl (cY 0, 110, .inl kp)), (AM 5, .inl (cY 0, 8414, .inl td)), (AM 6, .inl (cY 0, 2, .inl wn)), (AM 13, .inl (cY 0, 4, .inl rw)), (AM 14, .inl (cY 0, 4, .inl br))] := hD1
  have hS := hS1
  clear hP1 hD1 hS1
  refine lv_iinc (v := 21) (lv' := [(2, .int 21), (0, .ref m0), (1, .int depth)]) hx hb dX8_fetch_25 hl (k := 0) rfl (by first | rfl | decide) (by decide) rfl (fun ls hl => ?_)
  refine lv_goto (tgt := 2) hx hb dX8_fetch_28 (by decide) ?_
  refine lv_iload_n hx hb dX8_fetch_2 rfl (lv_at hl 0 rfl) ?_
  refine lv_bipush (v := 22) hx hb dX8_fetch_3 (by decide) ?_
  refine lv_icmp_ge (tgt := 31) hx hb dX8_fetch_5 (by decide) (fun c_43 => ?_) (fun c_43 => ?_)
  · exact absurd c_43 (by decide)
  refine lv_aload_n hx hb dX8_fetch_8 rfl (lv_at hl 1 rfl) ?_
  refine va_get (D := (dC, dI)) (ci := 8) (v := .ref (AM 2)) (C := RX8) (T := TX8) (N := 17) hx hb hts inw_X8_fetch_X8 hown hK hP 0 rfl rfl 2 (by decide) (hts (.fieldLink RX8 13 "DuelFramesModel" "s" "[I") (List.mem_of_getElem? (i := 1) rfl)) (fun _ h9 => h9) rfl dX8_fetch_9 ?_
  refine lv_iload_n hx hb dX8_fetch_12 rfl (lv_at hl 0 rfl) ?_
  refine lv_aload_n hx hb dX8_fetch_13 rfl (lv_at hl 1 rfl) ?_
  refine va_get (D := (dC, dI)) (ci := 8) (v := .ref (AM 4)) (C := RX8) (T := TX8) (N := 17) hx hb hts inw_X8_fetch_X8 hown hK hP 0 rfl rfl 4 (by decide) (hts (.fieldLink RX8 19 "DuelFramesModel" "kept" "[I") (List.mem_of_getElem? (i := 2) rfl)) (fun _ h9 => h9) rfl dX8_fetch_14 ?_
  refine lv_bipush (v := 22) hx hb dX8_fetch_17 (by decide) ?_
  refine lv_iload_n hx hb dX8_fetch_19 rfl (lv_at hl 2 rfl) ?_
  refine lv_imul hx hb dX8_fetch_20 ?_
  refine lv_iload_n hx hb dX8_fetch_21 rfl (lv_at hl 0 rfl) ?_
  refine lv_iadd hx hb dX8_fetch_22 ?_
  refine va_iald hx hb hK hP 4 0 rfl rfl (kp_in hd5 (vin rfl)) dX8_fetch_23 ?_
  refine lv_topi (fun x_44 ex_44 => ?_)
  obtain rfl : x_44 = (kp ((22 * depth) + 21).toNatClampNeg) := ex_44
  refine va_iast hx hb hK hP hD hS 2 0 rfl rfl (vin rfl) dX8_fetch_24 (fun H locs hP1 hD1 hS1 => ?_)
  clear hP hD hS
  have hP : va_P (dC, dI) vwCl [(m0, .inr (8, mdL AM g)), (AM 0, .inl (cY 0, 72, .inl tb)), (AM 2, .inl (cY 0, 22, .inl (upd (upd (upd (upd (upd (upd (upd (upd (upd (upd (upd (upd (upd (upd (upd (upd (upd (upd (upd (upd (upd (upd sA 0 (kp ((22 * depth) + 0).toNatClampNeg)) 1 (kp ((22 * depth) + 1).toNatClampNeg)) 2 (kp ((22 * depth) + 2).toNatClampNeg)) 3 (kp ((22 * depth) + 3).toNatClampNeg)) 4 (kp ((22 * depth) + 4).toNatClampNeg)) 5 (kp ((22 * depth) + 5).toNatClampNeg)) 6 (kp ((22 * depth) + 6).toNatClampNeg)) 7 (kp ((22 * depth) + 7).toNatClampNeg)) 8 (kp ((22 * depth) + 8).toNatClampNeg)) 9 (kp ((22 * depth) + 9).toNatClampNeg)) 10 (kp ((22 * depth) + 10).toNatClampNeg)) 11 (kp ((22 * depth) + 11).toNatClampNeg)) 12 (kp ((22 * depth) + 12).toNatClampNeg)) 13 (kp ((22 * depth) + 13).toNatClampNeg)) 14 (kp ((22 * depth) + 14).toNatClampNeg)) 15 (kp ((22 * depth) + 15).toNatClampNeg)) 16 (kp ((22 * depth) + 16).toNatClampNeg)) 17 (kp ((22 * depth) + 17).toNatClampNeg)) 18 (kp ((22 * depth) + 18).toNatClampNeg)) 19 (kp ((22 * depth) + 19).toNatClampNeg)) 20 (kp ((22 * depth) + 20).toNatClampNeg)) 21 (kp ((22 * depth) + 21).toNatClampNeg)))), (AM 3, .inl (cY 0, 22, .inl rd)), (AM 4, .inl (cY 0, 110, .inl kp)), (AM 5, .inl (cY 0, 8414, .inl td)), (AM 6, .inl (cY 0, 2, .inl wn)), (AM 13, .inl (cY 0, 4, .inl rw)), (AM 14, .inl (cY 0, 4, .inl br))] H := hP1
  have hD : va_D A [(m0, .inr (8, mdL AM g)), (AM 0, .inl (cY 0, 72, .inl tb)), (AM 2, .inl (cY 0, 22, .inl (upd (upd (upd (upd (upd (upd (upd (upd (upd (upd (upd (upd (upd (upd (upd (upd (upd (upd (upd (upd (upd (upd sA 0 (kp ((22 * depth) + 0).toNatClampNeg)) 1 (kp ((22 * depth) + 1).toNatClampNeg)) 2 (kp ((22 * depth) + 2).toNatClampNeg)) 3 (kp ((22 * depth) + 3).toNatClampNeg)) 4 (kp ((22 * depth) + 4).toNatClampNeg)) 5 (kp ((22 * depth) + 5).toNatClampNeg)) 6 (kp ((22 * depth) + 6).toNatClampNeg)) 7 (kp ((22 * depth) + 7).toNatClampNeg)) 8 (kp ((22 * depth) + 8).toNatClampNeg)) 9 (kp ((22 * depth) + 9).toNatClampNeg)) 10 (kp ((22 * depth) + 10).toNatClampNeg)) 11 (kp ((22 * depth) + 11).toNatClampNeg)) 12 (kp ((22 * depth) + 12).toNatClampNeg)) 13 (kp ((22 * depth) + 13).toNatClampNeg)) 14 (kp ((22 * depth) + 14).toNatClampNeg)) 15 (kp ((22 * depth) + 15).toNatClampNeg)) 16 (kp ((22 * depth) + 16).toNatClampNeg)) 17 (kp ((22 * depth) + 17).toNatClampNeg)) 18 (kp ((22 * depth) + 18).toNatClampNeg)) 19 (kp ((22 * depth) + 19).toNatClampNeg)) 20 (kp ((22 * depth) + 20).toNatClampNeg)) 21 (kp ((22 * depth) + 21).toNatClampNeg)))), (AM 3, .inl (cY 0, 22, .inl rd)), (AM 4, .inl (cY 0, 110, .inl kp)), (AM 5, .inl (cY 0, 8414, .inl td)), (AM 6, .inl (cY 0, 2, .inl wn)), (AM 13, .inl (cY 0, 4, .inl rw)), (AM 14, .inl (cY 0, 4, .inl br))] := hD1
  have hS := hS1
  clear hP1 hD1 hS1
  refine lv_iinc (v := 22) (lv' := [(2, .int 22), (0, .ref m0), (1, .int depth)]) hx hb dX8_fetch_25 hl (k := 0) rfl (by first | rfl | decide) (by decide) rfl (fun ls hl => ?_)
  refine lv_goto (tgt := 2) hx hb dX8_fetch_28 (by decide) ?_
  refine lv_iload_n hx hb dX8_fetch_2 rfl (lv_at hl 0 rfl) ?_
  refine lv_bipush (v := 22) hx hb dX8_fetch_3 (by decide) ?_
  refine lv_icmp_ge (tgt := 31) hx hb dX8_fetch_5 (by decide) (fun c_45 => ?_) (fun c_45 => ?_)
  rotate_left
  · exact absurd (by decide) c_45
  have eo_46 : (X8_fetch_w2 sA kp depth) = (upd (upd (upd (upd (upd (upd (upd (upd (upd (upd (upd (upd (upd (upd (upd (upd (upd (upd (upd (upd (upd (upd sA 0 (kp ((22 * depth) + 0).toNatClampNeg)) 1 (kp ((22 * depth) + 1).toNatClampNeg)) 2 (kp ((22 * depth) + 2).toNatClampNeg)) 3 (kp ((22 * depth) + 3).toNatClampNeg)) 4 (kp ((22 * depth) + 4).toNatClampNeg)) 5 (kp ((22 * depth) + 5).toNatClampNeg)) 6 (kp ((22 * depth) + 6).toNatClampNeg)) 7 (kp ((22 * depth) + 7).toNatClampNeg)) 8 (kp ((22 * depth) + 8).toNatClampNeg)) 9 (kp ((22 * depth) + 9).toNatClampNeg)) 10 (kp ((22 * depth) + 10).toNatClampNeg)) 11 (kp ((22 * depth) + 11).toNatClampNeg)) 12 (kp ((22 * depth) + 12).toNatClampNeg)) 13 (kp ((22 * depth) + 13).toNatClampNeg)) 14 (kp ((22 * depth) + 14).toNatClampNeg)) 15 (kp ((22 * depth) + 15).toNatClampNeg)) 16 (kp ((22 * depth) + 16).toNatClampNeg)) 17 (kp ((22 * depth) + 17).toNatClampNeg)) 18 (kp ((22 * depth) + 18).toNatClampNeg)) 19 (kp ((22 * depth) + 19).toNatClampNeg)) 20 (kp ((22 * depth) + 20).toNatClampNeg)) 21 (kp ((22 * depth) + 21).toNatClampNeg)) := by rw [X8_fetch_w2]
  have hP9 : va_P (dC, dI) vwCl [(m0, .inr (8, mdL AM g)), (AM 0, .inl (cY 0, 72, .inl tb)), (AM 2, .inl (cY 0, 22, .inl (X8_fetch_w2 sA kp depth))), (AM 3, .inl (cY 0, 22, .inl rd)), (AM 4, .inl (cY 0, 110, .inl kp)), (AM 5, .inl (cY 0, 8414, .inl td)), (AM 6, .inl (cY 0, 2, .inl wn)), (AM 13, .inl (cY 0, 4, .inl rw)), (AM 14, .inl (cY 0, 4, .inl br))] H := by simp only [eo_46]; exact hP
  have hD9 : va_D A [(m0, .inr (8, mdL AM g)), (AM 0, .inl (cY 0, 72, .inl tb)), (AM 2, .inl (cY 0, 22, .inl (X8_fetch_w2 sA kp depth))), (AM 3, .inl (cY 0, 22, .inl rd)), (AM 4, .inl (cY 0, 110, .inl kp)), (AM 5, .inl (cY 0, 8414, .inl td)), (AM 6, .inl (cY 0, 2, .inl wn)), (AM 13, .inl (cY 0, 4, .inl rw)), (AM 14, .inl (cY 0, 4, .inl br))] := by simp only [eo_46]; exact hD
  exact W.vret hx hb hr (fun t ht hW => ⟨⟨(), rfl, trivial, wPost_of hP9 hD9 ht⟩, hS.F ht⟩) hS.2.2 dX8_fetch_31
theorem inw_X8_begin_X8 : ∀ w ∈ u_ws RX8 TX8 17, w ∈ wsX8_begin := fun _ h => List.mem_cons_of_mem _ (List.mem_append_right _ h)
def X8_begin_j35 (g : Nat → Int32) (apart : Int32) : Int32 := (if (X8_in_r 300 20 apart) = 0 then 1 else (if (apart - apart / 2 * 2) = 0 then (if (g 9) = 0 then 0 else 2) else 1))
def X8_begin_j97 (g : Nat → Int32) (apart : Int32) : Nat → Int32 := (if (g 8) = 0 then (upd (upd (upd g 12 (X8_begin_j35 g apart)) 8 0) 10 (-1)) else (if (g 10) = (-1) then (upd g 12 (X8_begin_j35 g apart)) else (upd (upd (upd g 12 (X8_begin_j35 g apart)) 8 0) 10 (-1))))
def X8_begin_j97_1 (g : Nat → Int32) (rd : Nat → Int32) : Nat → Int32 := (if (g 8) = 0 then (upd (upd rd 2 0) 13 0) else (if (g 10) = (-1) then rd else (upd (upd rd 2 0) 13 0)))
def X8_begin_j97_2 (g : Nat → Int32) (wn : Nat → Int32) : Nat → Int32 := (if (g 8) = 0 then (upd (upd wn 0 0) 1 0) else (if (g 10) = (-1) then wn else (upd (upd wn 0 0) 1 0)))
def X8_begin_r (g : Nat → Int32) (apart : Int32) : Int32 := (if (X8_isFine_r (X8_begin_j35 g apart)) = 0 then 0 else (((X8_begin_j97 g apart) 8) + 1))
def X8_begin_w0 (g : Nat → Int32) (apart : Int32) : Nat → Int32 := (if (X8_isFine_r (X8_begin_j35 g apart)) = 0 then (upd g 12 (X8_begin_j35 g apart)) else (upd (upd (upd (X8_begin_j97 g apart) 8 (((X8_begin_j97 g apart) 8) + 1)) 9 1) 7 0))
def X8_begin_w2 (g : Nat → Int32) (sA : Nat → Int32) (rd : Nat → Int32) (apart : Int32) : Nat → Int32 := (if (X8_isFine_r (X8_begin_j35 g apart)) = 0 then sA else (X8_lay_w2 sA ((X8_begin_j97_1 g rd) 2) (300 + (apart / 2)) ((X8_begin_j97_1 g rd) 13) (300 - (apart / 2))))
def X8_begin_w3 (g : Nat → Int32) (sA : Nat → Int32) (rd : Nat → Int32) (apart : Int32) : Nat → Int32 := (if (X8_isFine_r (X8_begin_j35 g apart)) = 0 then rd else (X8_store_w3 (X8_lay_w2 sA ((X8_begin_j97_1 g rd) 2) (300 + (apart / 2)) ((X8_begin_j97_1 g rd) 13) (300 - (apart / 2))) (X8_begin_j97_1 g rd)))
def X8_begin_w5 (g : Nat → Int32) (sA : Nat → Int32) (rd : Nat → Int32) (td : Nat → Int32) (apart : Int32) : Nat → Int32 := (if (X8_isFine_r (X8_begin_j35 g apart)) = 0 then td else (X8_store_w5 (upd (upd (upd (X8_begin_j97 g apart) 8 (((X8_begin_j97 g apart) 8) + 1)) 9 1) 7 0) (X8_lay_w2 sA ((X8_begin_j97_1 g rd) 2) (300 + (apart / 2)) ((X8_begin_j97_1 g rd) 13) (300 - (apart / 2))) td))
def X8_begin_w6 (g : Nat → Int32) (wn : Nat → Int32) (apart : Int32) : Nat → Int32 := (if (X8_isFine_r (X8_begin_j35 g apart)) = 0 then wn else (X8_begin_j97_2 g wn))
set_option maxHeartbeats 4000000 in
set_option maxRecDepth 100000 in
theorem c_X8_begin (l : Launch) (dC : Nat → ClassId) (dI : Nat → Nat → Nat) (cY : Nat → ClassId) (m0 : Nat) (AM : Nat → Nat) (g : Nat → Int32) (tb : Nat → Int32) (sA : Nat → Int32) (rd : Nat → Int32) (kp : Nat → Int32) (td : Nat → Int32) (wn : Nat → Int32) (rw : Nat → Int32) (br : Nat → Int32) (apart : Int32)  (sz : Nat) : Met l yX8_begin wsX8_begin ({ frames := 1, cells := 0, slots := 0, locals := 26 } : Room) (va_Pc [.ref m0, .int apart] (wPre (dC, dI) (tyL cY) [(m0, .inr (8, mdL AM g)), (AM 0, .inl (cY 0, 72, .inl tb)), (AM 2, .inl (cY 0, 22, .inl sA)), (AM 3, .inl (cY 0, 22, .inl rd)), (AM 4, .inl (cY 0, 110, .inl kp)), (AM 5, .inl (cY 0, 8414, .inl td)), (AM 6, .inl (cY 0, 2, .inl wn)), (AM 13, .inl (cY 0, 4, .inl rw)), (AM 14, .inl (cY 0, 4, .inl br))] sz)) (va_Qi (fun (r : Int32) (_ : Unit) => r = (X8_begin_r g apart)) (wPost (dC, dI) [(m0, .inr (8, mdL AM (X8_begin_w0 g apart))), (AM 0, .inl (cY 0, 72, .inl tb)), (AM 2, .inl (cY 0, 22, .inl (X8_begin_w2 g sA rd apart))), (AM 3, .inl (cY 0, 22, .inl (X8_begin_w3 g sA rd apart))), (AM 4, .inl (cY 0, 110, .inl kp)), (AM 5, .inl (cY 0, 8414, .inl (X8_begin_w5 g sA rd td apart))), (AM 6, .inl (cY 0, 2, .inl (X8_begin_w6 g wn apart))), (AM 13, .inl (cY 0, 4, .inl rw)), (AM 14, .inl (cY 0, 4, .inl br))] (va_A [(m0, .inr (8, mdL AM g)), (AM 0, .inl (cY 0, 72, .inl tb)), (AM 2, .inl (cY 0, 22, .inl sA)), (AM 3, .inl (cY 0, 22, .inl rd)), (AM 4, .inl (cY 0, 110, .inl kp)), (AM 5, .inl (cY 0, 8414, .inl td)), (AM 6, .inl (cY 0, 2, .inl wn)), (AM 13, .inl (cY 0, 4, .inl rw)), (AM 14, .inl (cY 0, 4, .inl br))] sz)) (va_A [(m0, .inr (8, mdL AM g)), (AM 0, .inl (cY 0, 72, .inl tb)), (AM 2, .inl (cY 0, 22, .inl sA)), (AM 3, .inl (cY 0, 22, .inl rd)), (AM 4, .inl (cY 0, 110, .inl kp)), (AM 5, .inl (cY 0, 8414, .inl td)), (AM 6, .inl (cY 0, 2, .inl wn)), (AM 13, .inl (cY 0, 4, .inl rw)), (AM 14, .inl (cY 0, 4, .inl br))] sz)) 0 0 (va_A [(m0, .inr (8, mdL AM g)), (AM 0, .inl (cY 0, 72, .inl tb)), (AM 2, .inl (cY 0, 22, .inl sA)), (AM 3, .inl (cY 0, 22, .inl rd)), (AM 4, .inl (cY 0, 110, .inl kp)), (AM 5, .inl (cY 0, 8414, .inl td)), (AM 6, .inl (cY 0, 2, .inl wn)), (AM 13, .inl (cY 0, 4, .inl rw)), (AM 14, .inl (cY 0, 4, .inl br))] sz) := by
  refine Met.ofW (cc := cX8_begin) (maxL := 2) (ret := (some .int)) (by decide) rfl ?_
  intro p e s m args below meth c s₁ B hml hv
  obtain ⟨rfl, hsz, hP, hK, hN, hD0⟩ := hv
  have hx := B.exec
  have hb := B.bytes
  have hr := B.returns
  have hts := atoms_spec (ws := wsX8_begin) B.pre
  have hown : s.vm.findClass RX8 = some m.cls := findClass_of_methodNamed B.named
  have hlocks := B.notSynchronized
  subst hsz
  have hD := hD0.self (sz := s.heap.size)
  generalize hAe : va_A [(m0, .inr (8, mdL AM g)), (AM 0, .inl (cY 0, 72, .inl tb)), (AM 2, .inl (cY 0, 22, .inl sA)), (AM 3, .inl (cY 0, 22, .inl rd)), (AM 4, .inl (cY 0, 110, .inl kp)), (AM 5, .inl (cY 0, 8414, .inl td)), (AM 6, .inl (cY 0, 2, .inl wn)), (AM 13, .inl (cY 0, 4, .inl rw)), (AM 14, .inl (cY 0, 4, .inl br))] s.heap.size = A at hD ⊢
  have hA : ∀ q : Nat, s.heap.size ≤ q → A q := fun q h => by rw [← hAe]; exact Or.inr h
  have hS : va_S A s.heap s.heap [] := va_S.rf
  have hP : va_P (dC, dI) vwCl [(m0, .inr (8, mdL AM g)), (AM 0, .inl (cY 0, 72, .inl tb)), (AM 2, .inl (cY 0, 22, .inl sA)), (AM 3, .inl (cY 0, 22, .inl rd)), (AM 4, .inl (cY 0, 110, .inl kp)), (AM 5, .inl (cY 0, 8414, .inl td)), (AM 6, .inl (cY 0, 2, .inl wn)), (AM 13, .inl (cY 0, 4, .inl rw)), (AM 14, .inl (cY 0, 4, .inl br))] s.heap := hP
  have hl := lv_entry ([.ref m0, .int apart]) (n := 2) (Nat.le_of_ble_eq_true rfl)
  rw [lg_entry_eq]
  generalize (lg_sl ([.ref m0, .int apart]) ++ List.replicate (2 - (lg_sl ([.ref m0, .int apart])).length) Slot.unset).toArray = ls at hl ⊢
  have hl : lv_has ls 2 [(0, .ref m0), (1, .int apart)] := hl
  refine lv_aload_n hx hb dX8_begin_0 rfl (lv_at hl 0 rfl) ?_
  refine lv_iload_n hx hb dX8_begin_1 rfl (lv_at hl 1 rfl) ?_
  refine lv_bipush (v := 20) hx hb dX8_begin_2 (by decide) ?_
  refine lv_sipush (v := 300) hx hb dX8_begin_4 (by decide) ?_
  have hPc := hP.sub (ws' := []) [] rfl
  refine vp_callSi (W.runS (As := [.int apart, .int 20, .int 300]) (rest := [.ref m0]) ⟨hx, hb, hml, hown, hts⟩ (c_X8_in l dC dI cY apart 20 300) (va_cwS 3 hts gX8_begin_X8_in rfl rfl rfl (by decide +kernel) ⟨Nat.le_of_ble_eq_true rfl, Nat.le_of_ble_eq_true rfl⟩) ⟨blindR, fun U hU hW => ⟨rfl, rPre_of hPc hK hN U hU hW⟩⟩ rfl rfl hl.1 rfl (lv_room (Nat.le_of_ble_eq_true rfl)) dX8_begin_7 ⟨Nat.zero_le _, Nat.zero_le _⟩) (fun r_1 hw => ?_)
  obtain ⟨hw, hb_2⟩ := hw
  subst hw
  refine jnW (D := (dC, dI)) (ws := [(m0, .inr (8, mdL AM g)), (AM 0, .inl (cY 0, 72, .inl tb)), (AM 2, .inl (cY 0, 22, .inl sA)), (AM 3, .inl (cY 0, 22, .inl rd)), (AM 4, .inl (cY 0, 110, .inl kp)), (AM 5, .inl (cY 0, 8414, .inl td)), (AM 6, .inl (cY 0, 2, .inl wn)), (AM 13, .inl (cY 0, 4, .inl rw)), (AM 14, .inl (cY 0, 4, .inl br))]) (lv := [(0, .ref m0), (1, .int apart)]) (st := [.int (X8_begin_j35 g apart), .ref m0]) (J := 35) (n := 2) (A := A) (H0 := s.heap) ?_ ?_
  · intro H locs ls hP hD hS hl
    have hPc := hP.sub (ws' := [(m0, .inr (8, mdL AM g)), (AM 0, .inl (cY 0, 72, .inl tb)), (AM 2, .inl (cY 0, 22, .inl sA)), (AM 3, .inl (cY 0, 22, .inl rd)), (AM 4, .inl (cY 0, 110, .inl kp)), (AM 5, .inl (cY 0, 8414, .inl td)), (AM 6, .inl (cY 0, 2, .inl wn)), (AM 13, .inl (cY 0, 4, .inl rw)), (AM 14, .inl (cY 0, 4, .inl br))]) [0, 1, 2, 3, 4, 5, 6, 7, 8] rfl
    have hDc := hD.sub (ws' := [(m0, .inr (8, mdL AM g)), (AM 0, .inl (cY 0, 72, .inl tb)), (AM 2, .inl (cY 0, 22, .inl sA)), (AM 3, .inl (cY 0, 22, .inl rd)), (AM 4, .inl (cY 0, 110, .inl kp)), (AM 5, .inl (cY 0, 8414, .inl td)), (AM 6, .inl (cY 0, 2, .inl wn)), (AM 13, .inl (cY 0, 4, .inl rw)), (AM 14, .inl (cY 0, 4, .inl br))]) [0, 1, 2, 3, 4, 5, 6, 7, 8] (by decide) rfl
    have hFc := va_free (wc := [(m0, .inr (8, mdL AM g)), (AM 0, .inl (cY 0, 72, .inl tb)), (AM 2, .inl (cY 0, 22, .inl sA)), (AM 3, .inl (cY 0, 22, .inl rd)), (AM 4, .inl (cY 0, 110, .inl kp)), (AM 5, .inl (cY 0, 8414, .inl td)), (AM 6, .inl (cY 0, 2, .inl wn)), (AM 13, .inl (cY 0, 4, .inl rw)), (AM 14, .inl (cY 0, 4, .inl br))]) hD hS hA [0, 1, 2, 3, 4, 5, 6, 7, 8] rfl
    refine va_calli (va_runV (As := [.int (X8_begin_j35 g apart)]) (rest := []) ⟨hx, hb, hml, hown, hts⟩ (c_X8_isFine l dC dI cY m0 AM g tb sA rd kp td wn rw br (X8_begin_j35 g apart) H.size) (cwV 1 hts gX8_begin_X8_isFine rfl rfl rfl (by decide +kernel) ⟨Nat.le_of_ble_eq_true rfl, Nat.le_of_ble_eq_true rfl⟩) ⟨blindW, va_recv hK hPc (ci := 8) (q0 := 0) rfl rfl, fun U hU hW => ⟨rfl, wPre_of hPc hK hN hDc U hU hW⟩⟩ rfl rfl hl.1 rfl (lv_room (Nat.le_of_ble_eq_true rfl)) dX8_begin_35 ⟨Nat.zero_le _, Nat.zero_le _⟩) hS (fun q _ h => hFc q h) hFc (fun r_5 u t H1 locs ht hvm hw hB hz1 hk1 hS1 => ?_)
    obtain ⟨hw, hb_6⟩ := hw
    subst hw
    have hJ := wJoin (wr := []) (w1 := [(m0, .inr (8, mdL AM (upd g 12 (X8_begin_j35 g apart)))), (AM 0, .inl (cY 0, 72, .inl tb)), (AM 2, .inl (cY 0, 22, .inl sA)), (AM 3, .inl (cY 0, 22, .inl rd)), (AM 4, .inl (cY 0, 110, .inl kp)), (AM 5, .inl (cY 0, 8414, .inl td)), (AM 6, .inl (cY 0, 2, .inl wn)), (AM 13, .inl (cY 0, 4, .inl rw)), (AM 14, .inl (cY 0, 4, .inl br))]) (wn := [(m0, .inr (8, mdL AM (upd g 12 (X8_begin_j35 g apart)))), (AM 0, .inl (cY 0, 72, .inl tb)), (AM 2, .inl (cY 0, 22, .inl sA)), (AM 3, .inl (cY 0, 22, .inl rd)), (AM 4, .inl (cY 0, 110, .inl kp)), (AM 5, .inl (cY 0, 8414, .inl td)), (AM 6, .inl (cY 0, 2, .inl wn)), (AM 13, .inl (cY 0, 4, .inl rw)), (AM 14, .inl (cY 0, 4, .inl br))]) hP hD [0, 1, 2, 3, 4, 5, 6, 7, 8] [] rfl rfl (by decide) (by decide) hk1 hFc hB ht [0, 1, 2, 3, 4, 5, 6, 7, 8] rfl (by decide)
    clear hB hk1 hFc hPc hDc hP hD hS hz1 hvm ht t
    obtain ⟨hP1, hD1⟩ := hJ
    generalize H1 = H at hP1 hS1 ⊢
    have hP : va_P (dC, dI) vwCl [(m0, .inr (8, mdL AM (upd g 12 (X8_begin_j35 g apart)))), (AM 0, .inl (cY 0, 72, .inl tb)), (AM 2, .inl (cY 0, 22, .inl sA)), (AM 3, .inl (cY 0, 22, .inl rd)), (AM 4, .inl (cY 0, 110, .inl kp)), (AM 5, .inl (cY 0, 8414, .inl td)), (AM 6, .inl (cY 0, 2, .inl wn)), (AM 13, .inl (cY 0, 4, .inl rw)), (AM 14, .inl (cY 0, 4, .inl br))] H := hP1
    have hD : va_D A [(m0, .inr (8, mdL AM (upd g 12 (X8_begin_j35 g apart)))), (AM 0, .inl (cY 0, 72, .inl tb)), (AM 2, .inl (cY 0, 22, .inl sA)), (AM 3, .inl (cY 0, 22, .inl rd)), (AM 4, .inl (cY 0, 110, .inl kp)), (AM 5, .inl (cY 0, 8414, .inl td)), (AM 6, .inl (cY 0, 2, .inl wn)), (AM 13, .inl (cY 0, 4, .inl rw)), (AM 14, .inl (cY 0, 4, .inl br))] := hD1
    have hS := hS1
    clear hP1 hD1 hS1
    refine lv_if_ne (tgt := 43) hx hb dX8_begin_38 (by decide) (fun c_7 => ?_) (fun c_7 => ?_)
    · refine lv_aload_n hx hb dX8_begin_43 rfl (lv_at hl 0 rfl) ?_
      refine va_get (D := (dC, dI)) (ci := 8) (v := .int (g 8)) (C := RX8) (T := TX8) (N := 17) hx hb hts inw_X8_begin_X8 hown hK hP 0 rfl rfl 8 (by decide) (hts (.fieldLink RX8 96 "DuelFramesModel" "begun" "I") (List.mem_of_getElem? (i := 2) rfl)) (fun _ h9 => h9) rfl dX8_begin_44 ?_
      refine jnW (D := (dC, dI)) (ws := [(m0, .inr (8, mdL AM (X8_begin_j97 g apart))), (AM 0, .inl (cY 0, 72, .inl tb)), (AM 2, .inl (cY 0, 22, .inl sA)), (AM 3, .inl (cY 0, 22, .inl (X8_begin_j97_1 g rd))), (AM 4, .inl (cY 0, 110, .inl kp)), (AM 5, .inl (cY 0, 8414, .inl td)), (AM 6, .inl (cY 0, 2, .inl (X8_begin_j97_2 g wn))), (AM 13, .inl (cY 0, 4, .inl rw)), (AM 14, .inl (cY 0, 4, .inl br))]) (lv := [(0, .ref m0), (1, .int apart)]) (st := []) (J := 97) (n := 2) (A := A) (H0 := s.heap) ?_ ?_
      · intro H locs ls hP hD hS hl
        obtain ⟨z_10, ez_10⟩ : ∃ z, z = (X8_begin_j97 g apart) := ⟨_, rfl⟩
        rw [← ez_10] at hP hD
        obtain ⟨z_11, ez_11⟩ : ∃ z, z = (X8_begin_j97_1 g rd) := ⟨_, rfl⟩
        rw [← ez_11] at hP hD
        obtain ⟨z_12, ez_12⟩ : ∃ z, z = (X8_begin_j97_2 g wn) := ⟨_, rfl⟩
        rw [← ez_12] at hP hD
        refine lv_aload_n hx hb dX8_begin_97 rfl (lv_at hl 0 rfl) ?_
        refine lv_dup hx hb dX8_begin_98 rfl ?_
        refine va_get (D := (dC, dI)) (ci := 8) (v := .int (z_10 8)) (C := RX8) (T := TX8) (N := 17) hx hb hts inw_X8_begin_X8 hown hK hP 0 rfl rfl 8 (by decide) (hts (.fieldLink RX8 96 "DuelFramesModel" "begun" "I") (List.mem_of_getElem? (i := 2) rfl)) (fun _ h9 => h9) rfl dX8_begin_99 ?_
        refine lv_iconst (v := 1) hx hb dX8_begin_102 (by decide) ?_
        refine lv_iadd hx hb dX8_begin_103 ?_
        refine va_put (D := (dC, dI)) (ci := 8) (v := .int ((z_10 8) + 1)) (ty := .int) (C := RX8) (T := TX8) (N := 17) hx hb hts inw_X8_begin_X8 tyX8 tyX8_ok nmX8 hown hK hP hD hS 0 rfl rfl 8 (by decide) (hts (.fieldLink RX8 96 "DuelFramesModel" "begun" "I") (List.mem_of_getElem? (i := 2) rfl)) (fun _ h9 => h9) rfl (by decide +kernel) rfl rfl (Nat.le_of_ble_eq_true rfl) dX8_begin_104 (fun H locs hP1 hD1 hS1 => ?_)
        clear hP hD hS
        have hP : va_P (dC, dI) vwCl [(m0, .inr (8, mdL AM (upd z_10 8 ((z_10 8) + 1)))), (AM 0, .inl (cY 0, 72, .inl tb)), (AM 2, .inl (cY 0, 22, .inl sA)), (AM 3, .inl (cY 0, 22, .inl z_11)), (AM 4, .inl (cY 0, 110, .inl kp)), (AM 5, .inl (cY 0, 8414, .inl td)), (AM 6, .inl (cY 0, 2, .inl z_12)), (AM 13, .inl (cY 0, 4, .inl rw)), (AM 14, .inl (cY 0, 4, .inl br))] H := hP1
        have hD : va_D A [(m0, .inr (8, mdL AM (upd z_10 8 ((z_10 8) + 1)))), (AM 0, .inl (cY 0, 72, .inl tb)), (AM 2, .inl (cY 0, 22, .inl sA)), (AM 3, .inl (cY 0, 22, .inl z_11)), (AM 4, .inl (cY 0, 110, .inl kp)), (AM 5, .inl (cY 0, 8414, .inl td)), (AM 6, .inl (cY 0, 2, .inl z_12)), (AM 13, .inl (cY 0, 4, .inl rw)), (AM 14, .inl (cY 0, 4, .inl br))] := hD1
        have hS := hS1
        clear hP1 hD1 hS1
        refine lv_aload_n hx hb dX8_begin_107 rfl (lv_at hl 0 rfl) ?_
        refine lv_iconst (v := 1) hx hb dX8_begin_108 (by decide) ?_
        refine va_put (D := (dC, dI)) (ci := 8) (v := .int 1) (ty := .boolean) (C := RX8) (T := TX8) (N := 17) hx hb hts inw_X8_begin_X8 tyX8 tyX8_ok nmX8 hown hK hP hD hS 0 rfl rfl 9 (by decide) (hts (.fieldLink RX8 51 "DuelFramesModel" "goesOn" "Z") (List.mem_of_getElem? (i := 1) rfl)) (fun _ h9 => h9) rfl (by decide +kernel) rfl rfl (Nat.le_of_ble_eq_true rfl) dX8_begin_109 (fun H locs hP1 hD1 hS1 => ?_)
        clear hP hD hS
        have hP : va_P (dC, dI) vwCl [(m0, .inr (8, mdL AM (upd (upd z_10 8 ((z_10 8) + 1)) 9 1))), (AM 0, .inl (cY 0, 72, .inl tb)), (AM 2, .inl (cY 0, 22, .inl sA)), (AM 3, .inl (cY 0, 22, .inl z_11)), (AM 4, .inl (cY 0, 110, .inl kp)), (AM 5, .inl (cY 0, 8414, .inl td)), (AM 6, .inl (cY 0, 2, .inl z_12)), (AM 13, .inl (cY 0, 4, .inl rw)), (AM 14, .inl (cY 0, 4, .inl br))] H := hP1
        have hD : va_D A [(m0, .inr (8, mdL AM (upd (upd z_10 8 ((z_10 8) + 1)) 9 1))), (AM 0, .inl (cY 0, 72, .inl tb)), (AM 2, .inl (cY 0, 22, .inl sA)), (AM 3, .inl (cY 0, 22, .inl z_11)), (AM 4, .inl (cY 0, 110, .inl kp)), (AM 5, .inl (cY 0, 8414, .inl td)), (AM 6, .inl (cY 0, 2, .inl z_12)), (AM 13, .inl (cY 0, 4, .inl rw)), (AM 14, .inl (cY 0, 4, .inl br))] := hD1
        have hS := hS1
        clear hP1 hD1 hS1
        refine lv_aload_n hx hb dX8_begin_112 rfl (lv_at hl 0 rfl) ?_
        refine lv_iconst (v := 0) hx hb dX8_begin_113 (by decide) ?_
        refine va_put (D := (dC, dI)) (ci := 8) (v := .int 0) (ty := .int) (C := RX8) (T := TX8) (N := 17) hx hb hts inw_X8_begin_X8 tyX8 tyX8_ok nmX8 hown hK hP hD hS 0 rfl rfl 7 (by decide) (hts (.fieldLink RX8 28 "DuelFramesModel" "frames" "I") (List.mem_of_getElem? (i := 6) rfl)) (fun _ h9 => h9) rfl (by decide +kernel) rfl rfl (Nat.le_of_ble_eq_true rfl) dX8_begin_114 (fun H locs hP1 hD1 hS1 => ?_)
        clear hP hD hS
        have hP : va_P (dC, dI) vwCl [(m0, .inr (8, mdL AM (upd (upd (upd z_10 8 ((z_10 8) + 1)) 9 1) 7 0))), (AM 0, .inl (cY 0, 72, .inl tb)), (AM 2, .inl (cY 0, 22, .inl sA)), (AM 3, .inl (cY 0, 22, .inl z_11)), (AM 4, .inl (cY 0, 110, .inl kp)), (AM 5, .inl (cY 0, 8414, .inl td)), (AM 6, .inl (cY 0, 2, .inl z_12)), (AM 13, .inl (cY 0, 4, .inl rw)), (AM 14, .inl (cY 0, 4, .inl br))] H := hP1
        have hD : va_D A [(m0, .inr (8, mdL AM (upd (upd (upd z_10 8 ((z_10 8) + 1)) 9 1) 7 0))), (AM 0, .inl (cY 0, 72, .inl tb)), (AM 2, .inl (cY 0, 22, .inl sA)), (AM 3, .inl (cY 0, 22, .inl z_11)), (AM 4, .inl (cY 0, 110, .inl kp)), (AM 5, .inl (cY 0, 8414, .inl td)), (AM 6, .inl (cY 0, 2, .inl z_12)), (AM 13, .inl (cY 0, 4, .inl rw)), (AM 14, .inl (cY 0, 4, .inl br))] := hD1
        have hS := hS1
        clear hP1 hD1 hS1
        refine lv_aload_n hx hb dX8_begin_117 rfl (lv_at hl 0 rfl) ?_
        refine lv_sipush (v := 300) hx hb dX8_begin_118 (by decide) ?_
        refine lv_iload_n hx hb dX8_begin_121 rfl (lv_at hl 1 rfl) ?_
        refine lv_iconst (v := 2) hx hb dX8_begin_122 (by decide) ?_
        refine lv_idiv hx hb dX8_begin_123 (by decide) ?_
        refine lv_isub hx hb dX8_begin_124 ?_
        refine lv_sipush (v := 300) hx hb dX8_begin_125 (by decide) ?_
        refine lv_iload_n hx hb dX8_begin_128 rfl (lv_at hl 1 rfl) ?_
        refine lv_iconst (v := 2) hx hb dX8_begin_129 (by decide) ?_
        refine lv_idiv hx hb dX8_begin_130 (by decide) ?_
        refine lv_iadd hx hb dX8_begin_131 ?_
        refine lv_aload_n hx hb dX8_begin_132 rfl (lv_at hl 0 rfl) ?_
        refine va_get (D := (dC, dI)) (ci := 8) (v := .ref (AM 3)) (C := RX8) (T := TX8) (N := 17) hx hb hts inw_X8_begin_X8 hown hK hP 0 rfl rfl 3 (by decide) (hts (.fieldLink RX8 16 "DuelFramesModel" "round" "[I") (List.mem_of_getElem? (i := 5) rfl)) (fun _ h9 => h9) rfl dX8_begin_133 ?_
        refine lv_iconst (v := 2) hx hb dX8_begin_136 (by decide) ?_
        refine va_iald hx hb hK hP 3 0 rfl rfl (vin rfl) dX8_begin_137 ?_
        refine lv_topi (fun x_13 ex_13 => ?_)
        obtain rfl : x_13 = (z_11 2) := ex_13
        refine lv_aload_n hx hb dX8_begin_138 rfl (lv_at hl 0 rfl) ?_
        refine va_get (D := (dC, dI)) (ci := 8) (v := .ref (AM 3)) (C := RX8) (T := TX8) (N := 17) hx hb hts inw_X8_begin_X8 hown hK hP 0 rfl rfl 3 (by decide) (hts (.fieldLink RX8 16 "DuelFramesModel" "round" "[I") (List.mem_of_getElem? (i := 5) rfl)) (fun _ h9 => h9) rfl dX8_begin_139 ?_
        refine lv_bipush (v := 13) hx hb dX8_begin_142 (by decide) ?_
        refine va_iald hx hb hK hP 3 0 rfl rfl (vin rfl) dX8_begin_144 ?_
        refine lv_topi (fun x_14 ex_14 => ?_)
        obtain rfl : x_14 = (z_11 13) := ex_14
        have hPc := hP.sub (ws' := [(m0, .inr (8, mdL AM (upd (upd (upd z_10 8 ((z_10 8) + 1)) 9 1) 7 0))), (AM 0, .inl (cY 0, 72, .inl tb)), (AM 2, .inl (cY 0, 22, .inl sA)), (AM 3, .inl (cY 0, 22, .inl z_11)), (AM 4, .inl (cY 0, 110, .inl kp)), (AM 5, .inl (cY 0, 8414, .inl td)), (AM 6, .inl (cY 0, 2, .inl z_12)), (AM 13, .inl (cY 0, 4, .inl rw)), (AM 14, .inl (cY 0, 4, .inl br))]) [0, 1, 2, 3, 4, 5, 6, 7, 8] rfl
        have hDc := hD.sub (ws' := [(m0, .inr (8, mdL AM (upd (upd (upd z_10 8 ((z_10 8) + 1)) 9 1) 7 0))), (AM 0, .inl (cY 0, 72, .inl tb)), (AM 2, .inl (cY 0, 22, .inl sA)), (AM 3, .inl (cY 0, 22, .inl z_11)), (AM 4, .inl (cY 0, 110, .inl kp)), (AM 5, .inl (cY 0, 8414, .inl td)), (AM 6, .inl (cY 0, 2, .inl z_12)), (AM 13, .inl (cY 0, 4, .inl rw)), (AM 14, .inl (cY 0, 4, .inl br))]) [0, 1, 2, 3, 4, 5, 6, 7, 8] (by decide) rfl
        have hFc := va_free (wc := [(m0, .inr (8, mdL AM (upd (upd (upd z_10 8 ((z_10 8) + 1)) 9 1) 7 0))), (AM 0, .inl (cY 0, 72, .inl tb)), (AM 2, .inl (cY 0, 22, .inl sA)), (AM 3, .inl (cY 0, 22, .inl z_11)), (AM 4, .inl (cY 0, 110, .inl kp)), (AM 5, .inl (cY 0, 8414, .inl td)), (AM 6, .inl (cY 0, 2, .inl z_12)), (AM 13, .inl (cY 0, 4, .inl rw)), (AM 14, .inl (cY 0, 4, .inl br))]) hD hS hA [0, 1, 2, 3, 4, 5, 6, 7, 8] rfl
        refine va_callv (va_runV (As := [.int (300 - (apart / 2)), .int (300 + (apart / 2)), .int (z_11 2), .int (z_11 13)]) (rest := []) ⟨hx, hb, hml, hown, hts⟩ (c_X8_lay l dC dI cY m0 AM (upd (upd (upd z_10 8 ((z_10 8) + 1)) 9 1) 7 0) tb sA z_11 kp td z_12 rw br (300 - (apart / 2)) (300 + (apart / 2)) (z_11 2) (z_11 13) H.size) (cwV 4 hts gX8_begin_X8_lay rfl rfl rfl (by decide +kernel) ⟨Nat.le_of_ble_eq_true rfl, Nat.le_of_ble_eq_true rfl⟩) ⟨blindW, va_recv hK hPc (ci := 8) (q0 := 0) rfl rfl, fun U hU hW => ⟨rfl, wPre_of hPc hK hN hDc U hU hW⟩⟩ rfl rfl hl.1 rfl (lv_room (Nat.le_of_ble_eq_true rfl)) dX8_begin_145 ⟨Nat.zero_le _, Nat.zero_le _⟩) hS (fun q _ h => hFc q h) hFc (fun u t H1 locs ht hvm hw hB hz1 hk1 hS1 => ?_)
        have hJ := wJoin (wr := []) (w1 := [(m0, .inr (8, mdL AM (upd (upd (upd z_10 8 ((z_10 8) + 1)) 9 1) 7 0))), (AM 0, .inl (cY 0, 72, .inl tb)), (AM 2, .inl (cY 0, 22, .inl (X8_lay_w2 sA (z_11 2) (300 + (apart / 2)) (z_11 13) (300 - (apart / 2))))), (AM 3, .inl (cY 0, 22, .inl z_11)), (AM 4, .inl (cY 0, 110, .inl kp)), (AM 5, .inl (cY 0, 8414, .inl td)), (AM 6, .inl (cY 0, 2, .inl z_12)), (AM 13, .inl (cY 0, 4, .inl rw)), (AM 14, .inl (cY 0, 4, .inl br))]) (wn := [(m0, .inr (8, mdL AM (upd (upd (upd z_10 8 ((z_10 8) + 1)) 9 1) 7 0))), (AM 0, .inl (cY 0, 72, .inl tb)), (AM 2, .inl (cY 0, 22, .inl (X8_lay_w2 sA (z_11 2) (300 + (apart / 2)) (z_11 13) (300 - (apart / 2))))), (AM 3, .inl (cY 0, 22, .inl z_11)), (AM 4, .inl (cY 0, 110, .inl kp)), (AM 5, .inl (cY 0, 8414, .inl td)), (AM 6, .inl (cY 0, 2, .inl z_12)), (AM 13, .inl (cY 0, 4, .inl rw)), (AM 14, .inl (cY 0, 4, .inl br))]) hP hD [0, 1, 2, 3, 4, 5, 6, 7, 8] [] rfl rfl (by decide) (by decide) hk1 hFc hB ht [0, 1, 2, 3, 4, 5, 6, 7, 8] rfl (by decide)
        clear hB hk1 hFc hPc hDc hP hD hS hz1 hvm ht t
        obtain ⟨hP1, hD1⟩ := hJ
        generalize H1 = H at hP1 hS1 ⊢
        have hP : va_P (dC, dI) vwCl [(m0, .inr (8, mdL AM (upd (upd (upd z_10 8 ((z_10 8) + 1)) 9 1) 7 0))), (AM 0, .inl (cY 0, 72, .inl tb)), (AM 2, .inl (cY 0, 22, .inl (X8_lay_w2 sA (z_11 2) (300 + (apart / 2)) (z_11 13) (300 - (apart / 2))))), (AM 3, .inl (cY 0, 22, .inl z_11)), (AM 4, .inl (cY 0, 110, .inl kp)), (AM 5, .inl (cY 0, 8414, .inl td)), (AM 6, .inl (cY 0, 2, .inl z_12)), (AM 13, .inl (cY 0, 4, .inl rw)), (AM 14, .inl (cY 0, 4, .inl br))] H := hP1
        have hD : va_D A [(m0, .inr (8, mdL AM (upd (upd (upd z_10 8 ((z_10 8) + 1)) 9 1) 7 0))), (AM 0, .inl (cY 0, 72, .inl tb)), (AM 2, .inl (cY 0, 22, .inl (X8_lay_w2 sA (z_11 2) (300 + (apart / 2)) (z_11 13) (300 - (apart / 2))))), (AM 3, .inl (cY 0, 22, .inl z_11)), (AM 4, .inl (cY 0, 110, .inl kp)), (AM 5, .inl (cY 0, 8414, .inl td)), (AM 6, .inl (cY 0, 2, .inl z_12)), (AM 13, .inl (cY 0, 4, .inl rw)), (AM 14, .inl (cY 0, 4, .inl br))] := hD1
        have hS := hS1
        clear hP1 hD1 hS1
        obtain ⟨z_16, ez_16⟩ : ∃ z, z = (X8_lay_w2 sA (z_11 2) (300 + (apart / 2)) (z_11 13) (300 - (apart / 2))) := ⟨_, rfl⟩
        rw [← ez_16] at hP hD
        refine lv_aload_n hx hb dX8_begin_148 rfl (lv_at hl 0 rfl) ?_
        have hPc := hP.sub (ws' := [(m0, .inr (8, mdL AM (upd (upd (upd z_10 8 ((z_10 8) + 1)) 9 1) 7 0))), (AM 0, .inl (cY 0, 72, .inl tb)), (AM 2, .inl (cY 0, 22, .inl z_16)), (AM 3, .inl (cY 0, 22, .inl z_11)), (AM 4, .inl (cY 0, 110, .inl kp)), (AM 5, .inl (cY 0, 8414, .inl td)), (AM 6, .inl (cY 0, 2, .inl z_12)), (AM 13, .inl (cY 0, 4, .inl rw)), (AM 14, .inl (cY 0, 4, .inl br))]) [0, 1, 2, 3, 4, 5, 6, 7, 8] rfl
        have hDc := hD.sub (ws' := [(m0, .inr (8, mdL AM (upd (upd (upd z_10 8 ((z_10 8) + 1)) 9 1) 7 0))), (AM 0, .inl (cY 0, 72, .inl tb)), (AM 2, .inl (cY 0, 22, .inl z_16)), (AM 3, .inl (cY 0, 22, .inl z_11)), (AM 4, .inl (cY 0, 110, .inl kp)), (AM 5, .inl (cY 0, 8414, .inl td)), (AM 6, .inl (cY 0, 2, .inl z_12)), (AM 13, .inl (cY 0, 4, .inl rw)), (AM 14, .inl (cY 0, 4, .inl br))]) [0, 1, 2, 3, 4, 5, 6, 7, 8] (by decide) rfl
        have hFc := va_free (wc := [(m0, .inr (8, mdL AM (upd (upd (upd z_10 8 ((z_10 8) + 1)) 9 1) 7 0))), (AM 0, .inl (cY 0, 72, .inl tb)), (AM 2, .inl (cY 0, 22, .inl z_16)), (AM 3, .inl (cY 0, 22, .inl z_11)), (AM 4, .inl (cY 0, 110, .inl kp)), (AM 5, .inl (cY 0, 8414, .inl td)), (AM 6, .inl (cY 0, 2, .inl z_12)), (AM 13, .inl (cY 0, 4, .inl rw)), (AM 14, .inl (cY 0, 4, .inl br))]) hD hS hA [0, 1, 2, 3, 4, 5, 6, 7, 8] rfl
        refine va_callv (va_runV (As := []) (rest := []) ⟨hx, hb, hml, hown, hts⟩ (c_X8_store l dC dI cY m0 AM (upd (upd (upd z_10 8 ((z_10 8) + 1)) 9 1) 7 0) tb z_16 z_11 kp td z_12 rw br (by (try simp only [ez_16, ez_12, ez_11, ez_10]); exact (vin rfl)) H.size) (cwV 0 hts gX8_begin_X8_store rfl rfl rfl (by decide +kernel) ⟨Nat.le_of_ble_eq_true rfl, Nat.le_of_ble_eq_true rfl⟩) ⟨blindW, va_recv hK hPc (ci := 8) (q0 := 0) rfl rfl, fun U hU hW => ⟨rfl, wPre_of hPc hK hN hDc U hU hW⟩⟩ rfl rfl hl.1 rfl (lv_room (Nat.le_of_ble_eq_true rfl)) dX8_begin_149 ⟨Nat.zero_le _, Nat.zero_le _⟩) hS (fun q _ h => hFc q h) hFc (fun u t H1 locs ht hvm hw hB hz1 hk1 hS1 => ?_)
        have hJ := wJoin (wr := []) (w1 := [(m0, .inr (8, mdL AM (upd (upd (upd z_10 8 ((z_10 8) + 1)) 9 1) 7 0))), (AM 0, .inl (cY 0, 72, .inl tb)), (AM 2, .inl (cY 0, 22, .inl z_16)), (AM 3, .inl (cY 0, 22, .inl (X8_store_w3 z_16 z_11))), (AM 4, .inl (cY 0, 110, .inl kp)), (AM 5, .inl (cY 0, 8414, .inl (X8_store_w5 (upd (upd (upd z_10 8 ((z_10 8) + 1)) 9 1) 7 0) z_16 td))), (AM 6, .inl (cY 0, 2, .inl z_12)), (AM 13, .inl (cY 0, 4, .inl rw)), (AM 14, .inl (cY 0, 4, .inl br))]) (wn := [(m0, .inr (8, mdL AM (upd (upd (upd z_10 8 ((z_10 8) + 1)) 9 1) 7 0))), (AM 0, .inl (cY 0, 72, .inl tb)), (AM 2, .inl (cY 0, 22, .inl z_16)), (AM 3, .inl (cY 0, 22, .inl (X8_store_w3 z_16 z_11))), (AM 4, .inl (cY 0, 110, .inl kp)), (AM 5, .inl (cY 0, 8414, .inl (X8_store_w5 (upd (upd (upd z_10 8 ((z_10 8) + 1)) 9 1) 7 0) z_16 td))), (AM 6, .inl (cY 0, 2, .inl z_12)), (AM 13, .inl (cY 0, 4, .inl rw)), (AM 14, .inl (cY 0, 4, .inl br))]) hP hD [0, 1, 2, 3, 4, 5, 6, 7, 8] [] rfl rfl (by decide) (by decide) hk1 hFc hB ht [0, 1, 2, 3, 4, 5, 6, 7, 8] rfl (by decide)
        clear hB hk1 hFc hPc hDc hP hD hS hz1 hvm ht t
        obtain ⟨hP1, hD1⟩ := hJ
        generalize H1 = H at hP1 hS1 ⊢
        have hP : va_P (dC, dI) vwCl [(m0, .inr (8, mdL AM (upd (upd (upd z_10 8 ((z_10 8) + 1)) 9 1) 7 0))), (AM 0, .inl (cY 0, 72, .inl tb)), (AM 2, .inl (cY 0, 22, .inl z_16)), (AM 3, .inl (cY 0, 22, .inl (X8_store_w3 z_16 z_11))), (AM 4, .inl (cY 0, 110, .inl kp)), (AM 5, .inl (cY 0, 8414, .inl (X8_store_w5 (upd (upd (upd z_10 8 ((z_10 8) + 1)) 9 1) 7 0) z_16 td))), (AM 6, .inl (cY 0, 2, .inl z_12)), (AM 13, .inl (cY 0, 4, .inl rw)), (AM 14, .inl (cY 0, 4, .inl br))] H := hP1
        have hD : va_D A [(m0, .inr (8, mdL AM (upd (upd (upd z_10 8 ((z_10 8) + 1)) 9 1) 7 0))), (AM 0, .inl (cY 0, 72, .inl tb)), (AM 2, .inl (cY 0, 22, .inl z_16)), (AM 3, .inl (cY 0, 22, .inl (X8_store_w3 z_16 z_11))), (AM 4, .inl (cY 0, 110, .inl kp)), (AM 5, .inl (cY 0, 8414, .inl (X8_store_w5 (upd (upd (upd z_10 8 ((z_10 8) + 1)) 9 1) 7 0) z_16 td))), (AM 6, .inl (cY 0, 2, .inl z_12)), (AM 13, .inl (cY 0, 4, .inl rw)), (AM 14, .inl (cY 0, 4, .inl br))] := hD1
        have hS := hS1
        clear hP1 hD1 hS1
        obtain ⟨z_18, ez_18⟩ : ∃ z, z = (X8_store_w3 z_16 z_11) := ⟨_, rfl⟩
        rw [← ez_18] at hP hD
        obtain ⟨z_19, ez_19⟩ : ∃ z, z = (X8_store_w5 (upd (upd (upd z_10 8 ((z_10 8) + 1)) 9 1) 7 0) z_16 td) := ⟨_, rfl⟩
        rw [← ez_19] at hP hD
        refine lv_aload_n hx hb dX8_begin_152 rfl (lv_at hl 0 rfl) ?_
        refine va_get (D := (dC, dI)) (ci := 8) (v := .int ((z_10 8) + 1)) (C := RX8) (T := TX8) (N := 17) hx hb hts inw_X8_begin_X8 hown hK hP 0 rfl rfl 8 (by decide) (hts (.fieldLink RX8 96 "DuelFramesModel" "begun" "I") (List.mem_of_getElem? (i := 2) rfl)) (fun _ h9 => h9) rfl dX8_begin_153 ?_
        have eo_20 : (X8_begin_r g apart) = ((z_10 8) + 1) := by rw [X8_begin_r]; simp only [← ez_10, ← ez_11, ← ez_12, ← ez_16, ← ez_18, ← ez_19, eq_false c_7, ↓reduceIte]
        have eo_21 : (X8_begin_w0 g apart) = (upd (upd (upd z_10 8 ((z_10 8) + 1)) 9 1) 7 0) := by rw [X8_begin_w0]; simp only [← ez_10, ← ez_11, ← ez_12, ← ez_16, ← ez_18, ← ez_19, eq_false c_7, ↓reduceIte]
        have eo_22 : (X8_begin_w2 g sA rd apart) = z_16 := by rw [X8_begin_w2]; simp only [← ez_10, ← ez_11, ← ez_12, ← ez_16, ← ez_18, ← ez_19, eq_false c_7, ↓reduceIte]
        have eo_23 : (X8_begin_w3 g sA rd apart) = z_18 := by rw [X8_begin_w3]; simp only [← ez_10, ← ez_11, ← ez_12, ← ez_16, ← ez_18, ← ez_19, eq_false c_7, ↓reduceIte]
        have eo_24 : (X8_begin_w5 g sA rd td apart) = z_19 := by rw [X8_begin_w5]; simp only [← ez_10, ← ez_11, ← ez_12, ← ez_16, ← ez_18, ← ez_19, eq_false c_7, ↓reduceIte]
        have eo_25 : (X8_begin_w6 g wn apart) = z_12 := by rw [X8_begin_w6]; simp only [← ez_10, ← ez_11, ← ez_12, ← ez_16, ← ez_18, ← ez_19, eq_false c_7, ↓reduceIte]
        have hP9 : va_P (dC, dI) vwCl [(m0, .inr (8, mdL AM (X8_begin_w0 g apart))), (AM 0, .inl (cY 0, 72, .inl tb)), (AM 2, .inl (cY 0, 22, .inl (X8_begin_w2 g sA rd apart))), (AM 3, .inl (cY 0, 22, .inl (X8_begin_w3 g sA rd apart))), (AM 4, .inl (cY 0, 110, .inl kp)), (AM 5, .inl (cY 0, 8414, .inl (X8_begin_w5 g sA rd td apart))), (AM 6, .inl (cY 0, 2, .inl (X8_begin_w6 g wn apart))), (AM 13, .inl (cY 0, 4, .inl rw)), (AM 14, .inl (cY 0, 4, .inl br))] H := by simp only [eo_21, eo_22, eo_23, eo_24, eo_25]; exact hP
        have hD9 : va_D A [(m0, .inr (8, mdL AM (X8_begin_w0 g apart))), (AM 0, .inl (cY 0, 72, .inl tb)), (AM 2, .inl (cY 0, 22, .inl (X8_begin_w2 g sA rd apart))), (AM 3, .inl (cY 0, 22, .inl (X8_begin_w3 g sA rd apart))), (AM 4, .inl (cY 0, 110, .inl kp)), (AM 5, .inl (cY 0, 8414, .inl (X8_begin_w5 g sA rd td apart))), (AM 6, .inl (cY 0, 2, .inl (X8_begin_w6 g wn apart))), (AM 13, .inl (cY 0, 4, .inl rw)), (AM 14, .inl (cY 0, 4, .inl br))] := by simp only [eo_21, eo_22, eo_23, eo_24, eo_25]; exact hD
        exact W.iret (v := ((z_10 8) + 1)) hx hb hr (fun t ht hW => ⟨⟨_, (), rfl, eo_20.symm, wPost_of hP9 hD9 ht⟩, hS.F ht⟩) hS.2.2 dX8_begin_156
      · intro jn_9
        refine lv_if_eq (tgt := 58) hx hb dX8_begin_47 (by decide) (fun c_8 => ?_) (fun c_8 => ?_)
        · refine lv_aload_n hx hb dX8_begin_58 rfl (lv_at hl 0 rfl) ?_
          refine lv_iconst (v := 0) hx hb dX8_begin_59 (by decide) ?_
          refine va_put (D := (dC, dI)) (ci := 8) (v := .int 0) (ty := .int) (C := RX8) (T := TX8) (N := 17) hx hb hts inw_X8_begin_X8 tyX8 tyX8_ok nmX8 hown hK hP hD hS 0 rfl rfl 8 (by decide) (hts (.fieldLink RX8 96 "DuelFramesModel" "begun" "I") (List.mem_of_getElem? (i := 2) rfl)) (fun _ h9 => h9) rfl (by decide +kernel) rfl rfl (Nat.le_of_ble_eq_true rfl) dX8_begin_60 (fun H locs hP1 hD1 hS1 => ?_)
          clear hP hD hS
          have hP : va_P (dC, dI) vwCl [(m0, .inr (8, mdL AM (upd (upd g 12 (X8_begin_j35 g apart)) 8 0))), (AM 0, .inl (cY 0, 72, .inl tb)), (AM 2, .inl (cY 0, 22, .inl sA)), (AM 3, .inl (cY 0, 22, .inl rd)), (AM 4, .inl (cY 0, 110, .inl kp)), (AM 5, .inl (cY 0, 8414, .inl td)), (AM 6, .inl (cY 0, 2, .inl wn)), (AM 13, .inl (cY 0, 4, .inl rw)), (AM 14, .inl (cY 0, 4, .inl br))] H := hP1
          have hD : va_D A [(m0, .inr (8, mdL AM (upd (upd g 12 (X8_begin_j35 g apart)) 8 0))), (AM 0, .inl (cY 0, 72, .inl tb)), (AM 2, .inl (cY 0, 22, .inl sA)), (AM 3, .inl (cY 0, 22, .inl rd)), (AM 4, .inl (cY 0, 110, .inl kp)), (AM 5, .inl (cY 0, 8414, .inl td)), (AM 6, .inl (cY 0, 2, .inl wn)), (AM 13, .inl (cY 0, 4, .inl rw)), (AM 14, .inl (cY 0, 4, .inl br))] := hD1
          have hS := hS1
          clear hP1 hD1 hS1
          refine lv_aload_n hx hb dX8_begin_63 rfl (lv_at hl 0 rfl) ?_
          refine lv_iconst (v := (-1)) hx hb dX8_begin_64 (by decide) ?_
          refine va_put (D := (dC, dI)) (ci := 8) (v := .int (-1)) (ty := .int) (C := RX8) (T := TX8) (N := 17) hx hb hts inw_X8_begin_X8 tyX8 tyX8_ok nmX8 hown hK hP hD hS 0 rfl rfl 10 (by decide) (hts (.fieldLink RX8 32 "DuelFramesModel" "winner" "I") (List.mem_of_getElem? (i := 3) rfl)) (fun _ h9 => h9) rfl (by decide +kernel) rfl rfl (Nat.le_of_ble_eq_true rfl) dX8_begin_65 (fun H locs hP1 hD1 hS1 => ?_)
          clear hP hD hS
          have hP : va_P (dC, dI) vwCl [(m0, .inr (8, mdL AM (upd (upd (upd g 12 (X8_begin_j35 g apart)) 8 0) 10 (-1)))), (AM 0, .inl (cY 0, 72, .inl tb)), (AM 2, .inl (cY 0, 22, .inl sA)), (AM 3, .inl (cY 0, 22, .inl rd)), (AM 4, .inl (cY 0, 110, .inl kp)), (AM 5, .inl (cY 0, 8414, .inl td)), (AM 6, .inl (cY 0, 2, .inl wn)), (AM 13, .inl (cY 0, 4, .inl rw)), (AM 14, .inl (cY 0, 4, .inl br))] H := hP1
          have hD : va_D A [(m0, .inr (8, mdL AM (upd (upd (upd g 12 (X8_begin_j35 g apart)) 8 0) 10 (-1)))), (AM 0, .inl (cY 0, 72, .inl tb)), (AM 2, .inl (cY 0, 22, .inl sA)), (AM 3, .inl (cY 0, 22, .inl rd)), (AM 4, .inl (cY 0, 110, .inl kp)), (AM 5, .inl (cY 0, 8414, .inl td)), (AM 6, .inl (cY 0, 2, .inl wn)), (AM 13, .inl (cY 0, 4, .inl rw)), (AM 14, .inl (cY 0, 4, .inl br))] := hD1
          have hS := hS1
          clear hP1 hD1 hS1
          refine lv_aload_n hx hb dX8_begin_68 rfl (lv_at hl 0 rfl) ?_
          refine va_get (D := (dC, dI)) (ci := 8) (v := .ref (AM 6)) (C := RX8) (T := TX8) (N := 17) hx hb hts inw_X8_begin_X8 hown hK hP 0 rfl rfl 6 (by decide) (hts (.fieldLink RX8 25 "DuelFramesModel" "won" "[I") (List.mem_of_getElem? (i := 4) rfl)) (fun _ h9 => h9) rfl dX8_begin_69 ?_
          refine lv_iconst (v := 0) hx hb dX8_begin_72 (by decide) ?_
          refine lv_iconst (v := 0) hx hb dX8_begin_73 (by decide) ?_
          refine va_iast hx hb hK hP hD hS 6 0 rfl rfl (vin rfl) dX8_begin_74 (fun H locs hP1 hD1 hS1 => ?_)
          clear hP hD hS
          have hP : va_P (dC, dI) vwCl [(m0, .inr (8, mdL AM (upd (upd (upd g 12 (X8_begin_j35 g apart)) 8 0) 10 (-1)))), (AM 0, .inl (cY 0, 72, .inl tb)), (AM 2, .inl (cY 0, 22, .inl sA)), (AM 3, .inl (cY 0, 22, .inl rd)), (AM 4, .inl (cY 0, 110, .inl kp)), (AM 5, .inl (cY 0, 8414, .inl td)), (AM 6, .inl (cY 0, 2, .inl (upd wn 0 0))), (AM 13, .inl (cY 0, 4, .inl rw)), (AM 14, .inl (cY 0, 4, .inl br))] H := hP1
          have hD : va_D A [(m0, .inr (8, mdL AM (upd (upd (upd g 12 (X8_begin_j35 g apart)) 8 0) 10 (-1)))), (AM 0, .inl (cY 0, 72, .inl tb)), (AM 2, .inl (cY 0, 22, .inl sA)), (AM 3, .inl (cY 0, 22, .inl rd)), (AM 4, .inl (cY 0, 110, .inl kp)), (AM 5, .inl (cY 0, 8414, .inl td)), (AM 6, .inl (cY 0, 2, .inl (upd wn 0 0))), (AM 13, .inl (cY 0, 4, .inl rw)), (AM 14, .inl (cY 0, 4, .inl br))] := hD1
          have hS := hS1
          clear hP1 hD1 hS1
          refine lv_aload_n hx hb dX8_begin_75 rfl (lv_at hl 0 rfl) ?_
          refine va_get (D := (dC, dI)) (ci := 8) (v := .ref (AM 6)) (C := RX8) (T := TX8) (N := 17) hx hb hts inw_X8_begin_X8 hown hK hP 0 rfl rfl 6 (by decide) (hts (.fieldLink RX8 25 "DuelFramesModel" "won" "[I") (List.mem_of_getElem? (i := 4) rfl)) (fun _ h9 => h9) rfl dX8_begin_76 ?_
          refine lv_iconst (v := 1) hx hb dX8_begin_79 (by decide) ?_
          refine lv_iconst (v := 0) hx hb dX8_begin_80 (by decide) ?_
          refine va_iast hx hb hK hP hD hS 6 0 rfl rfl (vin rfl) dX8_begin_81 (fun H locs hP1 hD1 hS1 => ?_)
          clear hP hD hS
          have hP : va_P (dC, dI) vwCl [(m0, .inr (8, mdL AM (upd (upd (upd g 12 (X8_begin_j35 g apart)) 8 0) 10 (-1)))), (AM 0, .inl (cY 0, 72, .inl tb)), (AM 2, .inl (cY 0, 22, .inl sA)), (AM 3, .inl (cY 0, 22, .inl rd)), (AM 4, .inl (cY 0, 110, .inl kp)), (AM 5, .inl (cY 0, 8414, .inl td)), (AM 6, .inl (cY 0, 2, .inl (upd (upd wn 0 0) 1 0))), (AM 13, .inl (cY 0, 4, .inl rw)), (AM 14, .inl (cY 0, 4, .inl br))] H := hP1
          have hD : va_D A [(m0, .inr (8, mdL AM (upd (upd (upd g 12 (X8_begin_j35 g apart)) 8 0) 10 (-1)))), (AM 0, .inl (cY 0, 72, .inl tb)), (AM 2, .inl (cY 0, 22, .inl sA)), (AM 3, .inl (cY 0, 22, .inl rd)), (AM 4, .inl (cY 0, 110, .inl kp)), (AM 5, .inl (cY 0, 8414, .inl td)), (AM 6, .inl (cY 0, 2, .inl (upd (upd wn 0 0) 1 0))), (AM 13, .inl (cY 0, 4, .inl rw)), (AM 14, .inl (cY 0, 4, .inl br))] := hD1
          have hS := hS1
          clear hP1 hD1 hS1
          refine lv_aload_n hx hb dX8_begin_82 rfl (lv_at hl 0 rfl) ?_
          refine va_get (D := (dC, dI)) (ci := 8) (v := .ref (AM 3)) (C := RX8) (T := TX8) (N := 17) hx hb hts inw_X8_begin_X8 hown hK hP 0 rfl rfl 3 (by decide) (hts (.fieldLink RX8 16 "DuelFramesModel" "round" "[I") (List.mem_of_getElem? (i := 5) rfl)) (fun _ h9 => h9) rfl dX8_begin_83 ?_
          refine lv_iconst (v := 2) hx hb dX8_begin_86 (by decide) ?_
          refine lv_iconst (v := 0) hx hb dX8_begin_87 (by decide) ?_
          refine va_iast hx hb hK hP hD hS 3 0 rfl rfl (vin rfl) dX8_begin_88 (fun H locs hP1 hD1 hS1 => ?_)
          clear hP hD hS
          have hP : va_P (dC, dI) vwCl [(m0, .inr (8, mdL AM (upd (upd (upd g 12 (X8_begin_j35 g apart)) 8 0) 10 (-1)))), (AM 0, .inl (cY 0, 72, .inl tb)), (AM 2, .inl (cY 0, 22, .inl sA)), (AM 3, .inl (cY 0, 22, .inl (upd rd 2 0))), (AM 4, .inl (cY 0, 110, .inl kp)), (AM 5, .inl (cY 0, 8414, .inl td)), (AM 6, .inl (cY 0, 2, .inl (upd (upd wn 0 0) 1 0))), (AM 13, .inl (cY 0, 4, .inl rw)), (AM 14, .inl (cY 0, 4, .inl br))] H := hP1
          have hD : va_D A [(m0, .inr (8, mdL AM (upd (upd (upd g 12 (X8_begin_j35 g apart)) 8 0) 10 (-1)))), (AM 0, .inl (cY 0, 72, .inl tb)), (AM 2, .inl (cY 0, 22, .inl sA)), (AM 3, .inl (cY 0, 22, .inl (upd rd 2 0))), (AM 4, .inl (cY 0, 110, .inl kp)), (AM 5, .inl (cY 0, 8414, .inl td)), (AM 6, .inl (cY 0, 2, .inl (upd (upd wn 0 0) 1 0))), (AM 13, .inl (cY 0, 4, .inl rw)), (AM 14, .inl (cY 0, 4, .inl br))] := hD1
          have hS := hS1
          clear hP1 hD1 hS1
          refine lv_aload_n hx hb dX8_begin_89 rfl (lv_at hl 0 rfl) ?_
          refine va_get (D := (dC, dI)) (ci := 8) (v := .ref (AM 3)) (C := RX8) (T := TX8) (N := 17) hx hb hts inw_X8_begin_X8 hown hK hP 0 rfl rfl 3 (by decide) (hts (.fieldLink RX8 16 "DuelFramesModel" "round" "[I") (List.mem_of_getElem? (i := 5) rfl)) (fun _ h9 => h9) rfl dX8_begin_90 ?_
          refine lv_bipush (v := 13) hx hb dX8_begin_93 (by decide) ?_
          refine lv_iconst (v := 0) hx hb dX8_begin_95 (by decide) ?_
          refine va_iast hx hb hK hP hD hS 3 0 rfl rfl (vin rfl) dX8_begin_96 (fun H locs hP1 hD1 hS1 => ?_)
          clear hP hD hS
          have hP : va_P (dC, dI) vwCl [(m0, .inr (8, mdL AM (upd (upd (upd g 12 (X8_begin_j35 g apart)) 8 0) 10 (-1)))), (AM 0, .inl (cY 0, 72, .inl tb)), (AM 2, .inl (cY 0, 22, .inl sA)), (AM 3, .inl (cY 0, 22, .inl (upd (upd rd 2 0) 13 0))), (AM 4, .inl (cY 0, 110, .inl kp)), (AM 5, .inl (cY 0, 8414, .inl td)), (AM 6, .inl (cY 0, 2, .inl (upd (upd wn 0 0) 1 0))), (AM 13, .inl (cY 0, 4, .inl rw)), (AM 14, .inl (cY 0, 4, .inl br))] H := hP1
          have hD : va_D A [(m0, .inr (8, mdL AM (upd (upd (upd g 12 (X8_begin_j35 g apart)) 8 0) 10 (-1)))), (AM 0, .inl (cY 0, 72, .inl tb)), (AM 2, .inl (cY 0, 22, .inl sA)), (AM 3, .inl (cY 0, 22, .inl (upd (upd rd 2 0) 13 0))), (AM 4, .inl (cY 0, 110, .inl kp)), (AM 5, .inl (cY 0, 8414, .inl td)), (AM 6, .inl (cY 0, 2, .inl (upd (upd wn 0 0) 1 0))), (AM 13, .inl (cY 0, 4, .inl rw)), (AM 14, .inl (cY 0, 4, .inl br))] := hD1
          have hS := hS1
          clear hP1 hD1 hS1
          have e_26 : (X8_begin_j97 g apart) = (upd (upd (upd g 12 (X8_begin_j35 g apart)) 8 0) 10 (-1)) := by rw [X8_begin_j97]; simp only [eq_true c_8, ↓reduceIte]
          have e_27 : (X8_begin_j97_1 g rd) = (upd (upd rd 2 0) 13 0) := by rw [X8_begin_j97_1]; simp only [eq_true c_8, ↓reduceIte]
          have e_28 : (X8_begin_j97_2 g wn) = (upd (upd wn 0 0) 1 0) := by rw [X8_begin_j97_2]; simp only [eq_true c_8, ↓reduceIte]
          exact jn_9 _ _ _ (by (try simp only [e_26, e_27, e_28]); exact hP) (by (try simp only [e_26, e_27, e_28]); exact hD) hS (by (try simp only [e_26, e_27, e_28]); exact (lv_sub hl [0, 1] rfl))
        · refine lv_aload_n hx hb dX8_begin_50 rfl (lv_at hl 0 rfl) ?_
          refine va_get (D := (dC, dI)) (ci := 8) (v := .int (g 10)) (C := RX8) (T := TX8) (N := 17) hx hb hts inw_X8_begin_X8 hown hK hP 0 rfl rfl 10 (by decide) (hts (.fieldLink RX8 32 "DuelFramesModel" "winner" "I") (List.mem_of_getElem? (i := 3) rfl)) (fun _ h9 => h9) rfl dX8_begin_51 ?_
          refine lv_iconst (v := (-1)) hx hb dX8_begin_54 (by decide) ?_
          refine lv_icmp_eq (tgt := 97) hx hb dX8_begin_55 (by decide) (fun c_29 => ?_) (fun c_29 => ?_)
          · have e_30 : (X8_begin_j97 g apart) = (upd g 12 (X8_begin_j35 g apart)) := by rw [X8_begin_j97]; simp only [eq_false c_8, eq_true c_29, ↓reduceIte]
            have e_31 : (X8_begin_j97_1 g rd) = rd := by rw [X8_begin_j97_1]; simp only [eq_false c_8, eq_true c_29, ↓reduceIte]
            have e_32 : (X8_begin_j97_2 g wn) = wn := by rw [X8_begin_j97_2]; simp only [eq_false c_8, eq_true c_29, ↓reduceIte]
            exact jn_9 _ _ _ (by (try simp only [e_30, e_31, e_32]); exact hP) (by (try simp only [e_30, e_31, e_32]); exact hD) hS (by (try simp only [e_30, e_31, e_32]); exact (lv_sub hl [0, 1] rfl))
          · refine lv_aload_n hx hb dX8_begin_58 rfl (lv_at hl 0 rfl) ?_
            refine lv_iconst (v := 0) hx hb dX8_begin_59 (by decide) ?_
            refine va_put (D := (dC, dI)) (ci := 8) (v := .int 0) (ty := .int) (C := RX8) (T := TX8) (N := 17) hx hb hts inw_X8_begin_X8 tyX8 tyX8_ok nmX8 hown hK hP hD hS 0 rfl rfl 8 (by decide) (hts (.fieldLink RX8 96 "DuelFramesModel" "begun" "I") (List.mem_of_getElem? (i := 2) rfl)) (fun _ h9 => h9) rfl (by decide +kernel) rfl rfl (Nat.le_of_ble_eq_true rfl) dX8_begin_60 (fun H locs hP1 hD1 hS1 => ?_)
            clear hP hD hS
            have hP : va_P (dC, dI) vwCl [(m0, .inr (8, mdL AM (upd (upd g 12 (X8_begin_j35 g apart)) 8 0))), (AM 0, .inl (cY 0, 72, .inl tb)), (AM 2, .inl (cY 0, 22, .inl sA)), (AM 3, .inl (cY 0, 22, .inl rd)), (AM 4, .inl (cY 0, 110, .inl kp)), (AM 5, .inl (cY 0, 8414, .inl td)), (AM 6, .inl (cY 0, 2, .inl wn)), (AM 13, .inl (cY 0, 4, .inl rw)), (AM 14, .inl (cY 0, 4, .inl br))] H := hP1
            have hD : va_D A [(m0, .inr (8, mdL AM (upd (upd g 12 (X8_begin_j35 g apart)) 8 0))), (AM 0, .inl (cY 0, 72, .inl tb)), (AM 2, .inl (cY 0, 22, .inl sA)), (AM 3, .inl (cY 0, 22, .inl rd)), (AM 4, .inl (cY 0, 110, .inl kp)), (AM 5, .inl (cY 0, 8414, .inl td)), (AM 6, .inl (cY 0, 2, .inl wn)), (AM 13, .inl (cY 0, 4, .inl rw)), (AM 14, .inl (cY 0, 4, .inl br))] := hD1
            have hS := hS1
            clear hP1 hD1 hS1
            refine lv_aload_n hx hb dX8_begin_63 rfl (lv_at hl 0 rfl) ?_
            refine lv_iconst (v := (-1)) hx hb dX8_begin_64 (by decide) ?_
            refine va_put (D := (dC, dI)) (ci := 8) (v := .int (-1)) (ty := .int) (C := RX8) (T := TX8) (N := 17) hx hb hts inw_X8_begin_X8 tyX8 tyX8_ok nmX8 hown hK hP hD hS 0 rfl rfl 10 (by decide) (hts (.fieldLink RX8 32 "DuelFramesModel" "winner" "I") (List.mem_of_getElem? (i := 3) rfl)) (fun _ h9 => h9) rfl (by decide +kernel) rfl rfl (Nat.le_of_ble_eq_true rfl) dX8_begin_65 (fun H locs hP1 hD1 hS1 => ?_)
            clear hP hD hS
            have hP : va_P (dC, dI) vwCl [(m0, .inr (8, mdL AM (upd (upd (upd g 12 (X8_begin_j35 g apart)) 8 0) 10 (-1)))), (AM 0, .inl (cY 0, 72, .inl tb)), (AM 2, .inl (cY 0, 22, .inl sA)), (AM 3, .inl (cY 0, 22, .inl rd)), (AM 4, .inl (cY 0, 110, .inl kp)), (AM 5, .inl (cY 0, 8414, .inl td)), (AM 6, .inl (cY 0, 2, .inl wn)), (AM 13, .inl (cY 0, 4, .inl rw)), (AM 14, .inl (cY 0, 4, .inl br))] H := hP1
            have hD : va_D A [(m0, .inr (8, mdL AM (upd (upd (upd g 12 (X8_begin_j35 g apart)) 8 0) 10 (-1)))), (AM 0, .inl (cY 0, 72, .inl tb)), (AM 2, .inl (cY 0, 22, .inl sA)), (AM 3, .inl (cY 0, 22, .inl rd)), (AM 4, .inl (cY 0, 110, .inl kp)), (AM 5, .inl (cY 0, 8414, .inl td)), (AM 6, .inl (cY 0, 2, .inl wn)), (AM 13, .inl (cY 0, 4, .inl rw)), (AM 14, .inl (cY 0, 4, .inl br))] := hD1
            have hS := hS1
            clear hP1 hD1 hS1
            refine lv_aload_n hx hb dX8_begin_68 rfl (lv_at hl 0 rfl) ?_
            refine va_get (D := (dC, dI)) (ci := 8) (v := .ref (AM 6)) (C := RX8) (T := TX8) (N := 17) hx hb hts inw_X8_begin_X8 hown hK hP 0 rfl rfl 6 (by decide) (hts (.fieldLink RX8 25 "DuelFramesModel" "won" "[I") (List.mem_of_getElem? (i := 4) rfl)) (fun _ h9 => h9) rfl dX8_begin_69 ?_
            refine lv_iconst (v := 0) hx hb dX8_begin_72 (by decide) ?_
            refine lv_iconst (v := 0) hx hb dX8_begin_73 (by decide) ?_
            refine va_iast hx hb hK hP hD hS 6 0 rfl rfl (vin rfl) dX8_begin_74 (fun H locs hP1 hD1 hS1 => ?_)
            clear hP hD hS
            have hP : va_P (dC, dI) vwCl [(m0, .inr (8, mdL AM (upd (upd (upd g 12 (X8_begin_j35 g apart)) 8 0) 10 (-1)))), (AM 0, .inl (cY 0, 72, .inl tb)), (AM 2, .inl (cY 0, 22, .inl sA)), (AM 3, .inl (cY 0, 22, .inl rd)), (AM 4, .inl (cY 0, 110, .inl kp)), (AM 5, .inl (cY 0, 8414, .inl td)), (AM 6, .inl (cY 0, 2, .inl (upd wn 0 0))), (AM 13, .inl (cY 0, 4, .inl rw)), (AM 14, .inl (cY 0, 4, .inl br))] H := hP1
            have hD : va_D A [(m0, .inr (8, mdL AM (upd (upd (upd g 12 (X8_begin_j35 g apart)) 8 0) 10 (-1)))), (AM 0, .inl (cY 0, 72, .inl tb)), (AM 2, .inl (cY 0, 22, .inl sA)), (AM 3, .inl (cY 0, 22, .inl rd)), (AM 4, .inl (cY 0, 110, .inl kp)), (AM 5, .inl (cY 0, 8414, .inl td)), (AM 6, .inl (cY 0, 2, .inl (upd wn 0 0))), (AM 13, .inl (cY 0, 4, .inl rw)), (AM 14, .inl (cY 0, 4, .inl br))] := hD1
            have hS := hS1
            clear hP1 hD1 hS1
            refine lv_aload_n hx hb dX8_begin_75 rfl (lv_at hl 0 rfl) ?_
            refine va_get (D := (dC, dI)) (ci := 8) (v := .ref (AM 6)) (C := RX8) (T := TX8) (N := 17) hx hb hts inw_X8_begin_X8 hown hK hP 0 rfl rfl 6 (by decide) (hts (.fieldLink RX8 25 "DuelFramesModel" "won" "[I") (List.mem_of_getElem? (i := 4) rfl)) (fun _ h9 => h9) rfl dX8_begin_76 ?_
            refine lv_iconst (v := 1) hx hb dX8_begin_79 (by decide) ?_
            refine lv_iconst (v := 0) hx hb dX8_begin_80 (by decide) ?_
            refine va_iast hx hb hK hP hD hS 6 0 rfl rfl (vin rfl) dX8_begin_81 (fun H locs hP1 hD1 hS1 => ?_)
            clear hP hD hS
            have hP : va_P (dC, dI) vwCl [(m0, .inr (8, mdL AM (upd (upd (upd g 12 (X8_begin_j35 g apart)) 8 0) 10 (-1)))), (AM 0, .inl (cY 0, 72, .inl tb)), (AM 2, .inl (cY 0, 22, .inl sA)), (AM 3, .inl (cY 0, 22, .inl rd)), (AM 4, .inl (cY 0, 110, .inl kp)), (AM 5, .inl (cY 0, 8414, .inl td)), (AM 6, .inl (cY 0, 2, .inl (upd (upd wn 0 0) 1 0))), (AM 13, .inl (cY 0, 4, .inl rw)), (AM 14, .inl (cY 0, 4, .inl br))] H := hP1
            have hD : va_D A [(m0, .inr (8, mdL AM (upd (upd (upd g 12 (X8_begin_j35 g apart)) 8 0) 10 (-1)))), (AM 0, .inl (cY 0, 72, .inl tb)), (AM 2, .inl (cY 0, 22, .inl sA)), (AM 3, .inl (cY 0, 22, .inl rd)), (AM 4, .inl (cY 0, 110, .inl kp)), (AM 5, .inl (cY 0, 8414, .inl td)), (AM 6, .inl (cY 0, 2, .inl (upd (upd wn 0 0) 1 0))), (AM 13, .inl (cY 0, 4, .inl rw)), (AM 14, .inl (cY 0, 4, .inl br))] := hD1
            have hS := hS1
            clear hP1 hD1 hS1
            refine lv_aload_n hx hb dX8_begin_82 rfl (lv_at hl 0 rfl) ?_
            refine va_get (D := (dC, dI)) (ci := 8) (v := .ref (AM 3)) (C := RX8) (T := TX8) (N := 17) hx hb hts inw_X8_begin_X8 hown hK hP 0 rfl rfl 3 (by decide) (hts (.fieldLink RX8 16 "DuelFramesModel" "round" "[I") (List.mem_of_getElem? (i := 5) rfl)) (fun _ h9 => h9) rfl dX8_begin_83 ?_
            refine lv_iconst (v := 2) hx hb dX8_begin_86 (by decide) ?_
            refine lv_iconst (v := 0) hx hb dX8_begin_87 (by decide) ?_
            refine va_iast hx hb hK hP hD hS 3 0 rfl rfl (vin rfl) dX8_begin_88 (fun H locs hP1 hD1 hS1 => ?_)
            clear hP hD hS
            have hP : va_P (dC, dI) vwCl [(m0, .inr (8, mdL AM (upd (upd (upd g 12 (X8_begin_j35 g apart)) 8 0) 10 (-1)))), (AM 0, .inl (cY 0, 72, .inl tb)), (AM 2, .inl (cY 0, 22, .inl sA)), (AM 3, .inl (cY 0, 22, .inl (upd rd 2 0))), (AM 4, .inl (cY 0, 110, .inl kp)), (AM 5, .inl (cY 0, 8414, .inl td)), (AM 6, .inl (cY 0, 2, .inl (upd (upd wn 0 0) 1 0))), (AM 13, .inl (cY 0, 4, .inl rw)), (AM 14, .inl (cY 0, 4, .inl br))] H := hP1
            have hD : va_D A [(m0, .inr (8, mdL AM (upd (upd (upd g 12 (X8_begin_j35 g apart)) 8 0) 10 (-1)))), (AM 0, .inl (cY 0, 72, .inl tb)), (AM 2, .inl (cY 0, 22, .inl sA)), (AM 3, .inl (cY 0, 22, .inl (upd rd 2 0))), (AM 4, .inl (cY 0, 110, .inl kp)), (AM 5, .inl (cY 0, 8414, .inl td)), (AM 6, .inl (cY 0, 2, .inl (upd (upd wn 0 0) 1 0))), (AM 13, .inl (cY 0, 4, .inl rw)), (AM 14, .inl (cY 0, 4, .inl br))] := hD1
            have hS := hS1
            clear hP1 hD1 hS1
            refine lv_aload_n hx hb dX8_begin_89 rfl (lv_at hl 0 rfl) ?_
            refine va_get (D := (dC, dI)) (ci := 8) (v := .ref (AM 3)) (C := RX8) (T := TX8) (N := 17) hx hb hts inw_X8_begin_X8 hown hK hP 0 rfl rfl 3 (by decide) (hts (.fieldLink RX8 16 "DuelFramesModel" "round" "[I") (List.mem_of_getElem? (i := 5) rfl)) (fun _ h9 => h9) rfl dX8_begin_90 ?_
            refine lv_bipush (v := 13) hx hb dX8_begin_93 (by decide) ?_
            refine lv_iconst (v := 0) hx hb dX8_begin_95 (by decide) ?_
            refine va_iast hx hb hK hP hD hS 3 0 rfl rfl (vin rfl) dX8_begin_96 (fun H locs hP1 hD1 hS1 => ?_)
            clear hP hD hS
            have hP : va_P (dC, dI) vwCl [(m0, .inr (8, mdL AM (upd (upd (upd g 12 (X8_begin_j35 g apart)) 8 0) 10 (-1)))), (AM 0, .inl (cY 0, 72, .inl tb)), (AM 2, .inl (cY 0, 22, .inl sA)), (AM 3, .inl (cY 0, 22, .inl (upd (upd rd 2 0) 13 0))), (AM 4, .inl (cY 0, 110, .inl kp)), (AM 5, .inl (cY 0, 8414, .inl td)), (AM 6, .inl (cY 0, 2, .inl (upd (upd wn 0 0) 1 0))), (AM 13, .inl (cY 0, 4, .inl rw)), (AM 14, .inl (cY 0, 4, .inl br))] H := hP1
            have hD : va_D A [(m0, .inr (8, mdL AM (upd (upd (upd g 12 (X8_begin_j35 g apart)) 8 0) 10 (-1)))), (AM 0, .inl (cY 0, 72, .inl tb)), (AM 2, .inl (cY 0, 22, .inl sA)), (AM 3, .inl (cY 0, 22, .inl (upd (upd rd 2 0) 13 0))), (AM 4, .inl (cY 0, 110, .inl kp)), (AM 5, .inl (cY 0, 8414, .inl td)), (AM 6, .inl (cY 0, 2, .inl (upd (upd wn 0 0) 1 0))), (AM 13, .inl (cY 0, 4, .inl rw)), (AM 14, .inl (cY 0, 4, .inl br))] := hD1
            have hS := hS1
            clear hP1 hD1 hS1
            have e_33 : (X8_begin_j97 g apart) = (upd (upd (upd g 12 (X8_begin_j35 g apart)) 8 0) 10 (-1)) := by rw [X8_begin_j97]; simp only [eq_false c_8, eq_false c_29, ↓reduceIte]
            have e_34 : (X8_begin_j97_1 g rd) = (upd (upd rd 2 0) 13 0) := by rw [X8_begin_j97_1]; simp only [eq_false c_8, eq_false c_29, ↓reduceIte]
            have e_35 : (X8_begin_j97_2 g wn) = (upd (upd wn 0 0) 1 0) := by rw [X8_begin_j97_2]; simp only [eq_false c_8, eq_false c_29, ↓reduceIte]
            exact jn_9 _ _ _ (by (try simp only [e_33, e_34, e_35]); exact hP) (by (try simp only [e_33, e_34, e_35]); exact hD) hS (by (try simp only [e_33, e_34, e_35]); exact (lv_sub hl [0, 1] rfl))
    · refine lv_iconst (v := 0) hx hb dX8_begin_41 (by decide) ?_
      have eo_36 : (X8_begin_r g apart) = 0 := by rw [X8_begin_r]; simp only [eq_true c_7, ↓reduceIte]
      have eo_37 : (X8_begin_w0 g apart) = (upd g 12 (X8_begin_j35 g apart)) := by rw [X8_begin_w0]; simp only [eq_true c_7, ↓reduceIte]
      have eo_38 : (X8_begin_w2 g sA rd apart) = sA := by rw [X8_begin_w2]; simp only [eq_true c_7, ↓reduceIte]
      have eo_39 : (X8_begin_w3 g sA rd apart) = rd := by rw [X8_begin_w3]; simp only [eq_true c_7, ↓reduceIte]
      have eo_40 : (X8_begin_w5 g sA rd td apart) = td := by rw [X8_begin_w5]; simp only [eq_true c_7, ↓reduceIte]
      have eo_41 : (X8_begin_w6 g wn apart) = wn := by rw [X8_begin_w6]; simp only [eq_true c_7, ↓reduceIte]
      have hP9 : va_P (dC, dI) vwCl [(m0, .inr (8, mdL AM (X8_begin_w0 g apart))), (AM 0, .inl (cY 0, 72, .inl tb)), (AM 2, .inl (cY 0, 22, .inl (X8_begin_w2 g sA rd apart))), (AM 3, .inl (cY 0, 22, .inl (X8_begin_w3 g sA rd apart))), (AM 4, .inl (cY 0, 110, .inl kp)), (AM 5, .inl (cY 0, 8414, .inl (X8_begin_w5 g sA rd td apart))), (AM 6, .inl (cY 0, 2, .inl (X8_begin_w6 g wn apart))), (AM 13, .inl (cY 0, 4, .inl rw)), (AM 14, .inl (cY 0, 4, .inl br))] H := by simp only [eo_37, eo_38, eo_39, eo_40, eo_41]; exact hP
      have hD9 : va_D A [(m0, .inr (8, mdL AM (X8_begin_w0 g apart))), (AM 0, .inl (cY 0, 72, .inl tb)), (AM 2, .inl (cY 0, 22, .inl (X8_begin_w2 g sA rd apart))), (AM 3, .inl (cY 0, 22, .inl (X8_begin_w3 g sA rd apart))), (AM 4, .inl (cY 0, 110, .inl kp)), (AM 5, .inl (cY 0, 8414, .inl (X8_begin_w5 g sA rd td apart))), (AM 6, .inl (cY 0, 2, .inl (X8_begin_w6 g wn apart))), (AM 13, .inl (cY 0, 4, .inl rw)), (AM 14, .inl (cY 0, 4, .inl br))] := by simp only [eo_37, eo_38, eo_39, eo_40, eo_41]; exact hD
      exact W.iret (v := 0) hx hb hr (fun t ht hW => ⟨⟨_, (), rfl, eo_36.symm, wPost_of hP9 hD9 ht⟩, hS.F ht⟩) hS.2.2 dX8_begin_42
  · intro jn_4
    refine lv_if_eq (tgt := 19) hx hb dX8_begin_10 (by decide) (fun c_3 => ?_) (fun c_3 => ?_)
    · refine lv_iconst (v := 1) hx hb dX8_begin_19 (by decide) ?_
      refine lv_goto (tgt := 35) hx hb dX8_begin_20 (by decide) ?_
      have e_42 : (X8_begin_j35 g apart) = 1 := by rw [X8_begin_j35]; simp only [eq_true c_3, ↓reduceIte]
      refine W.eq (g2 := F0 m 35 ls [.int (X8_begin_j35 g apart), .ref m0]) (by simp only [e_42]) ?_
      exact jn_4 _ _ _ (by (try simp only [e_42]); exact hP) (by (try simp only [e_42]); exact hD) hS (by (try simp only [e_42]); exact (lv_sub hl [0, 1] rfl))
    · refine lv_iload_n hx hb dX8_begin_13 rfl (lv_at hl 1 rfl) ?_
      refine lv_iconst (v := 2) hx hb dX8_begin_14 (by decide) ?_
      refine lv_irem hx hb dX8_begin_15 (by decide) ?_
      refine lv_if_eq (tgt := 23) hx hb dX8_begin_16 (by decide) (fun c_43 => ?_) (fun c_43 => ?_)
      · refine lv_aload_n hx hb dX8_begin_23 rfl (lv_at hl 0 rfl) ?_
        refine va_get (D := (dC, dI)) (ci := 8) (v := .int (g 9)) (C := RX8) (T := TX8) (N := 17) hx hb hts inw_X8_begin_X8 hown hK hP 0 rfl rfl 9 (by decide) (hts (.fieldLink RX8 51 "DuelFramesModel" "goesOn" "Z") (List.mem_of_getElem? (i := 1) rfl)) (fun _ h9 => h9) rfl dX8_begin_24 ?_
        refine lv_if_eq (tgt := 34) hx hb dX8_begin_27 (by decide) (fun c_44 => ?_) (fun c_44 => ?_)
        · refine lv_iconst (v := 0) hx hb dX8_begin_34 (by decide) ?_
          have e_45 : (X8_begin_j35 g apart) = 0 := by rw [X8_begin_j35]; simp only [eq_false c_3, eq_true c_43, eq_true c_44, ↓reduceIte]
          refine W.eq (g2 := F0 m 35 ls [.int (X8_begin_j35 g apart), .ref m0]) (by simp only [e_45]) ?_
          exact jn_4 _ _ _ (by (try simp only [e_45]); exact hP) (by (try simp only [e_45]); exact hD) hS (by (try simp only [e_45]); exact (lv_sub hl [0, 1] rfl))
        · refine lv_iconst (v := 2) hx hb dX8_begin_30 (by decide) ?_
          refine lv_goto (tgt := 35) hx hb dX8_begin_31 (by decide) ?_
          have e_46 : (X8_begin_j35 g apart) = 2 := by rw [X8_begin_j35]; simp only [eq_false c_3, eq_true c_43, eq_false c_44, ↓reduceIte]
          refine W.eq (g2 := F0 m 35 ls [.int (X8_begin_j35 g apart), .ref m0]) (by simp only [e_46]) ?_
          exact jn_4 _ _ _ (by (try simp only [e_46]); exact hP) (by (try simp only [e_46]); exact hD) hS (by (try simp only [e_46]); exact (lv_sub hl [0, 1] rfl))
      · refine lv_iconst (v := 1) hx hb dX8_begin_19 (by decide) ?_
        refine lv_goto (tgt := 35) hx hb dX8_begin_20 (by decide) ?_
        have e_47 : (X8_begin_j35 g apart) = 1 := by rw [X8_begin_j35]; simp only [eq_false c_3, eq_false c_43, ↓reduceIte]
        refine W.eq (g2 := F0 m 35 ls [.int (X8_begin_j35 g apart), .ref m0]) (by simp only [e_47]) ?_
        exact jn_4 _ _ _ (by (try simp only [e_47]); exact hP) (by (try simp only [e_47]); exact hD) hS (by (try simp only [e_47]); exact (lv_sub hl [0, 1] rfl))
theorem inw_X8_isInput_X8 : ∀ w ∈ u_ws RX8 TX8 17, w ∈ wsX8_isInput := fun _ h => List.mem_cons_of_mem _ (List.mem_append_right _ h)
def X8_isInput_r (g : Nat → Int32) (input : Int32) : Int32 := (if (X8_in_r 4 0 input) = 0 then (if (X8_in_r (9 + (g 1)) 10 input) = 0 then 0 else 1) else 1)
set_option maxHeartbeats 4000000 in
set_option maxRecDepth 100000 in
theorem c_X8_isInput (l : Launch) (dC : Nat → ClassId) (dI : Nat → Nat → Nat) (cY : Nat → ClassId) (m0 : Nat) (AM : Nat → Nat) (g : Nat → Int32) (tb : Nat → Int32) (sA : Nat → Int32) (rd : Nat → Int32) (kp : Nat → Int32) (td : Nat → Int32) (wn : Nat → Int32) (rw : Nat → Int32) (br : Nat → Int32) (input : Int32)  : Met l yX8_isInput wsX8_isInput ({ frames := 1, cells := 0, slots := 0, locals := 22 } : Room) (va_Pc [.ref m0, .int input] (rPre (dC, dI) (tyL cY) [(m0, .inr (8, mdL AM g)), (AM 0, .inl (cY 0, 72, .inl tb)), (AM 2, .inl (cY 0, 22, .inl sA)), (AM 3, .inl (cY 0, 22, .inl rd)), (AM 4, .inl (cY 0, 110, .inl kp)), (AM 5, .inl (cY 0, 8414, .inl td)), (AM 6, .inl (cY 0, 2, .inl wn)), (AM 13, .inl (cY 0, 4, .inl rw)), (AM 14, .inl (cY 0, 4, .inl br))])) (vp_Si (fun r => r = (X8_isInput_r g input) ∧ (r = 0 ∨ r = 1))) 0 0 (fun _ => False) := by
  refine Met.ofW (cc := cX8_isInput) (maxL := 2) (ret := (some .boolean)) (by decide) rfl ?_
  intro p e s m args below meth c s₁ B hml hv
  obtain ⟨rfl, hP, hK, hN⟩ := hv
  have hx := B.exec
  have hb := B.bytes
  have hr := B.returns
  have hts := atoms_spec (ws := wsX8_isInput) B.pre
  have hown : s.vm.findClass RX8 = some m.cls := findClass_of_methodNamed B.named
  have hlocks := B.notSynchronized
  have hP : va_P (dC, dI) vwCl [(m0, .inr (8, mdL AM g)), (AM 0, .inl (cY 0, 72, .inl tb)), (AM 2, .inl (cY 0, 22, .inl sA)), (AM 3, .inl (cY 0, 22, .inl rd)), (AM 4, .inl (cY 0, 110, .inl kp)), (AM 5, .inl (cY 0, 8414, .inl td)), (AM 6, .inl (cY 0, 2, .inl wn)), (AM 13, .inl (cY 0, 4, .inl rw)), (AM 14, .inl (cY 0, 4, .inl br))] s.heap := hP
  have hl := lv_entry ([.ref m0, .int input]) (n := 2) (Nat.le_of_ble_eq_true rfl)
  rw [lg_entry_eq]
  generalize (lg_sl ([.ref m0, .int input]) ++ List.replicate (2 - (lg_sl ([.ref m0, .int input])).length) Slot.unset).toArray = ls at hl ⊢
  have hl : lv_has ls 2 [(0, .ref m0), (1, .int input)] := hl
  refine lv_iload_n hx hb dX8_isInput_0 rfl (lv_at hl 1 rfl) ?_
  refine lv_iconst (v := 0) hx hb dX8_isInput_1 (by decide) ?_
  refine lv_iconst (v := 4) hx hb dX8_isInput_2 (by decide) ?_
  have hPc := hP.sub (ws' := []) [] rfl
  refine vp_callSi (W.runS (As := [.int input, .int 0, .int 4]) (rest := []) ⟨hx, hb, hml, hown, hts⟩ (c_X8_in l dC dI cY input 0 4) (va_cwS 3 hts gX8_isInput_X8_in rfl rfl rfl (by decide +kernel) ⟨Nat.le_of_ble_eq_true rfl, Nat.le_of_ble_eq_true rfl⟩) ⟨blindR, fun U hU hW => ⟨rfl, rPre_of hPc hK hN U hU hW⟩⟩ rfl rfl hl.1 rfl (lv_room (Nat.le_of_ble_eq_true rfl)) dX8_isInput_3 ⟨Nat.zero_le _, Nat.zero_le _⟩) (fun r_1 hw => ?_)
  obtain ⟨hw, hb_2⟩ := hw
  subst hw
  refine lv_if_ne (tgt := 25) hx hb dX8_isInput_6 (by decide) (fun c_3 => ?_) (fun c_3 => ?_)
  · refine lv_iconst (v := 1) hx hb dX8_isInput_25 (by decide) ?_
    refine lv_goto (tgt := 30) hx hb dX8_isInput_26 (by decide) ?_
    have eo_4 : (X8_isInput_r g input) = 1 := by rw [X8_isInput_r]; simp only [eq_false c_3, ↓reduceIte]
    exact W.zret (v := 1) (ty := .boolean) hx hb hr rfl (fun t ht _ => ⟨_, rfl, ⟨eo_4.symm, (by decide)⟩, ht⟩) (fun _ h => absurd h List.not_mem_nil) dX8_isInput_30
  · refine lv_iload_n hx hb dX8_isInput_9 rfl (lv_at hl 1 rfl) ?_
    refine lv_bipush (v := 10) hx hb dX8_isInput_10 (by decide) ?_
    refine lv_bipush (v := 9) hx hb dX8_isInput_12 (by decide) ?_
    refine lv_aload_n hx hb dX8_isInput_14 rfl (lv_at hl 0 rfl) ?_
    refine va_get (D := (dC, dI)) (ci := 8) (v := .int (g 1)) (C := RX8) (T := TX8) (N := 17) hx hb hts inw_X8_isInput_X8 hown hK hP 0 rfl rfl 1 (by decide) (hts (.fieldLink RX8 44 "DuelFramesModel" "moves" "I") (List.mem_of_getElem? (i := 1) rfl)) (fun _ h9 => h9) rfl dX8_isInput_15 ?_
    refine lv_iadd hx hb dX8_isInput_18 ?_
    have hPc := hP.sub (ws' := []) [] rfl
    refine vp_callSi (W.runS (As := [.int input, .int 10, .int (9 + (g 1))]) (rest := []) ⟨hx, hb, hml, hown, hts⟩ (c_X8_in l dC dI cY input 10 (9 + (g 1))) (va_cwS 3 hts gX8_isInput_X8_in rfl rfl rfl (by decide +kernel) ⟨Nat.le_of_ble_eq_true rfl, Nat.le_of_ble_eq_true rfl⟩) ⟨blindR, fun U hU hW => ⟨rfl, rPre_of hPc hK hN U hU hW⟩⟩ rfl rfl hl.1 rfl (lv_room (Nat.le_of_ble_eq_true rfl)) dX8_isInput_19 ⟨Nat.zero_le _, Nat.zero_le _⟩) (fun r_5 hw => ?_)
    obtain ⟨hw, hb_6⟩ := hw
    subst hw
    refine lv_if_eq (tgt := 29) hx hb dX8_isInput_22 (by decide) (fun c_7 => ?_) (fun c_7 => ?_)
    · refine lv_iconst (v := 0) hx hb dX8_isInput_29 (by decide) ?_
      have eo_8 : (X8_isInput_r g input) = 0 := by rw [X8_isInput_r]; simp only [eq_true c_3, eq_true c_7, ↓reduceIte]
      exact W.zret (v := 0) (ty := .boolean) hx hb hr rfl (fun t ht _ => ⟨_, rfl, ⟨eo_8.symm, (by decide)⟩, ht⟩) (fun _ h => absurd h List.not_mem_nil) dX8_isInput_30
    · refine lv_iconst (v := 1) hx hb dX8_isInput_25 (by decide) ?_
      refine lv_goto (tgt := 30) hx hb dX8_isInput_26 (by decide) ?_
      have eo_9 : (X8_isInput_r g input) = 1 := by rw [X8_isInput_r]; simp only [eq_true c_3, eq_false c_7, ↓reduceIte]
      exact W.zret (v := 1) (ty := .boolean) hx hb hr rfl (fun t ht _ => ⟨_, rfl, ⟨eo_9.symm, (by decide)⟩, ht⟩) (fun _ h => absurd h List.not_mem_nil) dX8_isInput_30
theorem inw_X8_endRound_X8 : ∀ w ∈ u_ws RX8 TX8 17, w ∈ wsX8_endRound := fun _ h => List.mem_cons_of_mem _ (List.mem_append_right _ h)
def X8_endRound_w0 (g : Nat → Int32) (sA : Nat → Int32) (wn : Nat → Int32) : Nat → Int32 := (if (sA 1) ≤ (sA 12) then (if (sA 12) ≤ (sA 1) then (upd g 9 0) else (if ((wn 1) + 1) = 2 then (upd (upd g 9 0) 10 1) else (upd (upd g 9 0) 10 (-1)))) else (if ((wn 0) + 1) = 2 then (upd (upd g 9 0) 10 0) else (upd (upd g 9 0) 10 (-1))))
def X8_endRound_w6 (sA : Nat → Int32) (wn : Nat → Int32) : Nat → Int32 := (if (sA 1) ≤ (sA 12) then (if (sA 12) ≤ (sA 1) then wn else (upd wn 1 ((wn 1) + 1))) else (upd wn 0 ((wn 0) + 1)))
set_option maxHeartbeats 4000000 in
set_option maxRecDepth 100000 in
theorem c_X8_endRound (l : Launch) (dC : Nat → ClassId) (dI : Nat → Nat → Nat) (cY : Nat → ClassId) (m0 : Nat) (AM : Nat → Nat) (g : Nat → Int32) (tb : Nat → Int32) (sA : Nat → Int32) (rd : Nat → Int32) (kp : Nat → Int32) (td : Nat → Int32) (wn : Nat → Int32) (rw : Nat → Int32) (br : Nat → Int32)  (sz : Nat) : Met l yX8_endRound wsX8_endRound ({ frames := 0, cells := 0, slots := 0, locals := 0 } : Room) (va_Pc [.ref m0] (wPre (dC, dI) (tyL cY) [(m0, .inr (8, mdL AM g)), (AM 0, .inl (cY 0, 72, .inl tb)), (AM 2, .inl (cY 0, 22, .inl sA)), (AM 3, .inl (cY 0, 22, .inl rd)), (AM 4, .inl (cY 0, 110, .inl kp)), (AM 5, .inl (cY 0, 8414, .inl td)), (AM 6, .inl (cY 0, 2, .inl wn)), (AM 13, .inl (cY 0, 4, .inl rw)), (AM 14, .inl (cY 0, 4, .inl br))] sz)) (va_Qv (fun _ : Unit => True) (wPost (dC, dI) [(m0, .inr (8, mdL AM (X8_endRound_w0 g sA wn))), (AM 0, .inl (cY 0, 72, .inl tb)), (AM 2, .inl (cY 0, 22, .inl sA)), (AM 3, .inl (cY 0, 22, .inl rd)), (AM 4, .inl (cY 0, 110, .inl kp)), (AM 5, .inl (cY 0, 8414, .inl td)), (AM 6, .inl (cY 0, 2, .inl (X8_endRound_w6 sA wn))), (AM 13, .inl (cY 0, 4, .inl rw)), (AM 14, .inl (cY 0, 4, .inl br))] (va_A [(m0, .inr (8, mdL AM g)), (AM 0, .inl (cY 0, 72, .inl tb)), (AM 2, .inl (cY 0, 22, .inl sA)), (AM 3, .inl (cY 0, 22, .inl rd)), (AM 4, .inl (cY 0, 110, .inl kp)), (AM 5, .inl (cY 0, 8414, .inl td)), (AM 6, .inl (cY 0, 2, .inl wn)), (AM 13, .inl (cY 0, 4, .inl rw)), (AM 14, .inl (cY 0, 4, .inl br))] sz)) (va_A [(m0, .inr (8, mdL AM g)), (AM 0, .inl (cY 0, 72, .inl tb)), (AM 2, .inl (cY 0, 22, .inl sA)), (AM 3, .inl (cY 0, 22, .inl rd)), (AM 4, .inl (cY 0, 110, .inl kp)), (AM 5, .inl (cY 0, 8414, .inl td)), (AM 6, .inl (cY 0, 2, .inl wn)), (AM 13, .inl (cY 0, 4, .inl rw)), (AM 14, .inl (cY 0, 4, .inl br))] sz)) 0 0 (va_A [(m0, .inr (8, mdL AM g)), (AM 0, .inl (cY 0, 72, .inl tb)), (AM 2, .inl (cY 0, 22, .inl sA)), (AM 3, .inl (cY 0, 22, .inl rd)), (AM 4, .inl (cY 0, 110, .inl kp)), (AM 5, .inl (cY 0, 8414, .inl td)), (AM 6, .inl (cY 0, 2, .inl wn)), (AM 13, .inl (cY 0, 4, .inl rw)), (AM 14, .inl (cY 0, 4, .inl br))] sz) := by
  refine Met.ofW (cc := cX8_endRound) (maxL := 2) (ret := none) (by decide) rfl ?_
  intro p e s m args below meth c s₁ B hml hv
  obtain ⟨rfl, hsz, hP, hK, hN, hD0⟩ := hv
  have hx := B.exec
  have hb := B.bytes
  have hr := B.returns
  have hts := atoms_spec (ws := wsX8_endRound) B.pre
  have hown : s.vm.findClass RX8 = some m.cls := findClass_of_methodNamed B.named
  have hlocks := B.notSynchronized
  subst hsz
  have hD := hD0.self (sz := s.heap.size)
  generalize hAe : va_A [(m0, .inr (8, mdL AM g)), (AM 0, .inl (cY 0, 72, .inl tb)), (AM 2, .inl (cY 0, 22, .inl sA)), (AM 3, .inl (cY 0, 22, .inl rd)), (AM 4, .inl (cY 0, 110, .inl kp)), (AM 5, .inl (cY 0, 8414, .inl td)), (AM 6, .inl (cY 0, 2, .inl wn)), (AM 13, .inl (cY 0, 4, .inl rw)), (AM 14, .inl (cY 0, 4, .inl br))] s.heap.size = A at hD ⊢
  have hA : ∀ q : Nat, s.heap.size ≤ q → A q := fun q h => by rw [← hAe]; exact Or.inr h
  have hS : va_S A s.heap s.heap [] := va_S.rf
  have hP : va_P (dC, dI) vwCl [(m0, .inr (8, mdL AM g)), (AM 0, .inl (cY 0, 72, .inl tb)), (AM 2, .inl (cY 0, 22, .inl sA)), (AM 3, .inl (cY 0, 22, .inl rd)), (AM 4, .inl (cY 0, 110, .inl kp)), (AM 5, .inl (cY 0, 8414, .inl td)), (AM 6, .inl (cY 0, 2, .inl wn)), (AM 13, .inl (cY 0, 4, .inl rw)), (AM 14, .inl (cY 0, 4, .inl br))] s.heap := hP
  have hl := lv_entry ([.ref m0]) (n := 2) (Nat.le_of_ble_eq_true rfl)
  rw [lg_entry_eq]
  generalize (lg_sl ([.ref m0]) ++ List.replicate (2 - (lg_sl ([.ref m0])).length) Slot.unset).toArray = ls at hl ⊢
  have hl : lv_has ls 2 [(0, .ref m0)] := hl
  refine lv_aload_n hx hb dX8_endRound_0 rfl (lv_at hl 0 rfl) ?_
  refine lv_iconst (v := 0) hx hb dX8_endRound_1 (by decide) ?_
  refine va_put (D := (dC, dI)) (ci := 8) (v := .int 0) (ty := .boolean) (C := RX8) (T := TX8) (N := 17) hx hb hts inw_X8_endRound_X8 tyX8 tyX8_ok nmX8 hown hK hP hD hS 0 rfl rfl 9 (by decide) (hts (.fieldLink RX8 51 "DuelFramesModel" "goesOn" "Z") (List.mem_of_getElem? (i := 1) rfl)) (fun _ h9 => h9) rfl (by decide +kernel) rfl rfl (Nat.le_of_ble_eq_true rfl) dX8_endRound_2 (fun H locs hP1 hD1 hS1 => ?_)
  clear hP hD hS
  have hP : va_P (dC, dI) vwCl [(m0, .inr (8, mdL AM (upd g 9 0))), (AM 0, .inl (cY 0, 72, .inl tb)), (AM 2, .inl (cY 0, 22, .inl sA)), (AM 3, .inl (cY 0, 22, .inl rd)), (AM 4, .inl (cY 0, 110, .inl kp)), (AM 5, .inl (cY 0, 8414, .inl td)), (AM 6, .inl (cY 0, 2, .inl wn)), (AM 13, .inl (cY 0, 4, .inl rw)), (AM 14, .inl (cY 0, 4, .inl br))] H := hP1
  have hD : va_D A [(m0, .inr (8, mdL AM (upd g 9 0))), (AM 0, .inl (cY 0, 72, .inl tb)), (AM 2, .inl (cY 0, 22, .inl sA)), (AM 3, .inl (cY 0, 22, .inl rd)), (AM 4, .inl (cY 0, 110, .inl kp)), (AM 5, .inl (cY 0, 8414, .inl td)), (AM 6, .inl (cY 0, 2, .inl wn)), (AM 13, .inl (cY 0, 4, .inl rw)), (AM 14, .inl (cY 0, 4, .inl br))] := hD1
  have hS := hS1
  clear hP1 hD1 hS1
  refine lv_aload_n hx hb dX8_endRound_5 rfl (lv_at hl 0 rfl) ?_
  refine va_get (D := (dC, dI)) (ci := 8) (v := .ref (AM 2)) (C := RX8) (T := TX8) (N := 17) hx hb hts inw_X8_endRound_X8 hown hK hP 0 rfl rfl 2 (by decide) (hts (.fieldLink RX8 13 "DuelFramesModel" "s" "[I") (List.mem_of_getElem? (i := 2) rfl)) (fun _ h9 => h9) rfl dX8_endRound_6 ?_
  refine lv_iconst (v := 1) hx hb dX8_endRound_9 (by decide) ?_
  refine va_iald hx hb hK hP 2 0 rfl rfl (vin rfl) dX8_endRound_10 ?_
  refine lv_topi (fun x_1 ex_1 => ?_)
  obtain rfl : x_1 = (sA 1) := ex_1
  refine lv_aload_n hx hb dX8_endRound_11 rfl (lv_at hl 0 rfl) ?_
  refine va_get (D := (dC, dI)) (ci := 8) (v := .ref (AM 2)) (C := RX8) (T := TX8) (N := 17) hx hb hts inw_X8_endRound_X8 hown hK hP 0 rfl rfl 2 (by decide) (hts (.fieldLink RX8 13 "DuelFramesModel" "s" "[I") (List.mem_of_getElem? (i := 2) rfl)) (fun _ h9 => h9) rfl dX8_endRound_12 ?_
  refine lv_bipush (v := 12) hx hb dX8_endRound_15 (by decide) ?_
  refine va_iald hx hb hK hP 2 0 rfl rfl (vin rfl) dX8_endRound_17 ?_
  refine lv_topi (fun x_2 ex_2 => ?_)
  obtain rfl : x_2 = (sA 12) := ex_2
  refine lv_icmp_le (tgt := 25) hx hb dX8_endRound_18 (by decide) (fun c_3 => ?_) (fun c_3 => ?_)
  · refine lv_aload_n hx hb dX8_endRound_25 rfl (lv_at hl 0 rfl) ?_
    refine va_get (D := (dC, dI)) (ci := 8) (v := .ref (AM 2)) (C := RX8) (T := TX8) (N := 17) hx hb hts inw_X8_endRound_X8 hown hK hP 0 rfl rfl 2 (by decide) (hts (.fieldLink RX8 13 "DuelFramesModel" "s" "[I") (List.mem_of_getElem? (i := 2) rfl)) (fun _ h9 => h9) rfl dX8_endRound_26 ?_
    refine lv_iconst (v := 1) hx hb dX8_endRound_29 (by decide) ?_
    refine va_iald hx hb hK hP 2 0 rfl rfl (vin rfl) dX8_endRound_30 ?_
    refine lv_topi (fun x_4 ex_4 => ?_)
    obtain rfl : x_4 = (sA 1) := ex_4
    refine lv_aload_n hx hb dX8_endRound_31 rfl (lv_at hl 0 rfl) ?_
    refine va_get (D := (dC, dI)) (ci := 8) (v := .ref (AM 2)) (C := RX8) (T := TX8) (N := 17) hx hb hts inw_X8_endRound_X8 hown hK hP 0 rfl rfl 2 (by decide) (hts (.fieldLink RX8 13 "DuelFramesModel" "s" "[I") (List.mem_of_getElem? (i := 2) rfl)) (fun _ h9 => h9) rfl dX8_endRound_32 ?_
    refine lv_bipush (v := 12) hx hb dX8_endRound_35 (by decide) ?_
    refine va_iald hx hb hK hP 2 0 rfl rfl (vin rfl) dX8_endRound_37 ?_
    refine lv_topi (fun x_5 ex_5 => ?_)
    obtain rfl : x_5 = (sA 12) := ex_5
    refine lv_icmp_ge (tgt := 45) hx hb dX8_endRound_38 (by decide) (fun c_6 => ?_) (fun c_6 => ?_)
    · refine lv_iconst (v := (-1)) hx hb dX8_endRound_45 (by decide) ?_
      refine lv_istore_n (lv' := [(1, .int (-1)), (0, .ref m0)]) hx hb dX8_endRound_46 rfl hl (by decide) rfl (fun ls hl => ?_)
      refine lv_iload_n hx hb dX8_endRound_47 rfl (lv_at hl 0 rfl) ?_
      refine lv_iconst (v := (-1)) hx hb dX8_endRound_48 (by decide) ?_
      refine lv_icmp_eq (tgt := 81) hx hb dX8_endRound_49 (by decide) (fun c_7 => ?_) (fun c_7 => ?_)
      rotate_left
      · exact absurd (by decide) c_7
      have eo_8 : (X8_endRound_w0 g sA wn) = (upd g 9 0) := by rw [X8_endRound_w0]; simp only [eq_true c_3, eq_true c_6, ↓reduceIte]
      have eo_9 : (X8_endRound_w6 sA wn) = wn := by rw [X8_endRound_w6]; simp only [eq_true c_3, eq_true c_6, ↓reduceIte]
      have hP9 : va_P (dC, dI) vwCl [(m0, .inr (8, mdL AM (X8_endRound_w0 g sA wn))), (AM 0, .inl (cY 0, 72, .inl tb)), (AM 2, .inl (cY 0, 22, .inl sA)), (AM 3, .inl (cY 0, 22, .inl rd)), (AM 4, .inl (cY 0, 110, .inl kp)), (AM 5, .inl (cY 0, 8414, .inl td)), (AM 6, .inl (cY 0, 2, .inl (X8_endRound_w6 sA wn))), (AM 13, .inl (cY 0, 4, .inl rw)), (AM 14, .inl (cY 0, 4, .inl br))] H := by simp only [eo_8, eo_9]; exact hP
      have hD9 : va_D A [(m0, .inr (8, mdL AM (X8_endRound_w0 g sA wn))), (AM 0, .inl (cY 0, 72, .inl tb)), (AM 2, .inl (cY 0, 22, .inl sA)), (AM 3, .inl (cY 0, 22, .inl rd)), (AM 4, .inl (cY 0, 110, .inl kp)), (AM 5, .inl (cY 0, 8414, .inl td)), (AM 6, .inl (cY 0, 2, .inl (X8_endRound_w6 sA wn))), (AM 13, .inl (cY 0, 4, .inl rw)), (AM 14, .inl (cY 0, 4, .inl br))] := by simp only [eo_8, eo_9]; exact hD
      exact W.vret hx hb hr (fun t ht hW => ⟨⟨(), rfl, trivial, wPost_of hP9 hD9 ht⟩, hS.F ht⟩) hS.2.2 dX8_endRound_81
    · refine lv_iconst (v := 1) hx hb dX8_endRound_41 (by decide) ?_
      refine lv_goto (tgt := 46) hx hb dX8_endRound_42 (by decide) ?_
      refine lv_istore_n (lv' := [(1, .int 1), (0, .ref m0)]) hx hb dX8_endRound_46 rfl hl (by decide) rfl (fun ls hl => ?_)
      refine lv_iload_n hx hb dX8_endRound_47 rfl (lv_at hl 0 rfl) ?_
      refine lv_iconst (v := (-1)) hx hb dX8_endRound_48 (by decide) ?_
      refine lv_icmp_eq (tgt := 81) hx hb dX8_endRound_49 (by decide) (fun c_10 => ?_) (fun c_10 => ?_)
      · exact absurd c_10 (by decide)
      refine lv_aload_n hx hb dX8_endRound_52 rfl (lv_at hl 1 rfl) ?_
      refine va_get (D := (dC, dI)) (ci := 8) (v := .ref (AM 6)) (C := RX8) (T := TX8) (N := 17) hx hb hts inw_X8_endRound_X8 hown hK hP 0 rfl rfl 6 (by decide) (hts (.fieldLink RX8 25 "DuelFramesModel" "won" "[I") (List.mem_of_getElem? (i := 3) rfl)) (fun _ h9 => h9) rfl dX8_endRound_53 ?_
      refine lv_iload_n hx hb dX8_endRound_56 rfl (lv_at hl 0 rfl) ?_
      refine lv_dup2_11 hx hb dX8_endRound_57 rfl rfl ?_
      refine va_iald hx hb hK hP 6 0 rfl rfl (vin rfl) dX8_endRound_58 ?_
      refine lv_topi (fun x_11 ex_11 => ?_)
      obtain rfl : x_11 = (wn 1) := ex_11
      refine lv_iconst (v := 1) hx hb dX8_endRound_59 (by decide) ?_
      refine lv_iadd hx hb dX8_endRound_60 ?_
      refine va_iast hx hb hK hP hD hS 6 0 rfl rfl (vin rfl) dX8_endRound_61 (fun H locs hP1 hD1 hS1 => ?_)
      clear hP hD hS
      have hP : va_P (dC, dI) vwCl [(m0, .inr (8, mdL AM (upd g 9 0))), (AM 0, .inl (cY 0, 72, .inl tb)), (AM 2, .inl (cY 0, 22, .inl sA)), (AM 3, .inl (cY 0, 22, .inl rd)), (AM 4, .inl (cY 0, 110, .inl kp)), (AM 5, .inl (cY 0, 8414, .inl td)), (AM 6, .inl (cY 0, 2, .inl (upd wn 1 ((wn 1) + 1)))), (AM 13, .inl (cY 0, 4, .inl rw)), (AM 14, .inl (cY 0, 4, .inl br))] H := hP1
      have hD : va_D A [(m0, .inr (8, mdL AM (upd g 9 0))), (AM 0, .inl (cY 0, 72, .inl tb)), (AM 2, .inl (cY 0, 22, .inl sA)), (AM 3, .inl (cY 0, 22, .inl rd)), (AM 4, .inl (cY 0, 110, .inl kp)), (AM 5, .inl (cY 0, 8414, .inl td)), (AM 6, .inl (cY 0, 2, .inl (upd wn 1 ((wn 1) + 1)))), (AM 13, .inl (cY 0, 4, .inl rw)), (AM 14, .inl (cY 0, 4, .inl br))] := hD1
      have hS := hS1
      clear hP1 hD1 hS1
      refine lv_aload_n hx hb dX8_endRound_62 rfl (lv_at hl 1 rfl) ?_
      refine lv_aload_n hx hb dX8_endRound_63 rfl (lv_at hl 1 rfl) ?_
      refine va_get (D := (dC, dI)) (ci := 8) (v := .ref (AM 6)) (C := RX8) (T := TX8) (N := 17) hx hb hts inw_X8_endRound_X8 hown hK hP 0 rfl rfl 6 (by decide) (hts (.fieldLink RX8 25 "DuelFramesModel" "won" "[I") (List.mem_of_getElem? (i := 3) rfl)) (fun _ h9 => h9) rfl dX8_endRound_64 ?_
      refine lv_iload_n hx hb dX8_endRound_67 rfl (lv_at hl 0 rfl) ?_
      refine va_iald hx hb hK hP 6 0 rfl rfl (vin rfl) dX8_endRound_68 ?_
      refine lv_topi (fun x_12 ex_12 => ?_)
      obtain rfl : x_12 = ((wn 1) + 1) := ex_12
      refine lv_iconst (v := 2) hx hb dX8_endRound_69 (by decide) ?_
      refine lv_icmp_ne (tgt := 77) hx hb dX8_endRound_70 (by decide) (fun c_13 => ?_) (fun c_13 => ?_)
      · refine lv_iconst (v := (-1)) hx hb dX8_endRound_77 (by decide) ?_
        refine va_put (D := (dC, dI)) (ci := 8) (v := .int (-1)) (ty := .int) (C := RX8) (T := TX8) (N := 17) hx hb hts inw_X8_endRound_X8 tyX8 tyX8_ok nmX8 hown hK hP hD hS 0 rfl rfl 10 (by decide) (hts (.fieldLink RX8 32 "DuelFramesModel" "winner" "I") (List.mem_of_getElem? (i := 4) rfl)) (fun _ h9 => h9) rfl (by decide +kernel) rfl rfl (Nat.le_of_ble_eq_true rfl) dX8_endRound_78 (fun H locs hP1 hD1 hS1 => ?_)
        clear hP hD hS
        have hP : va_P (dC, dI) vwCl [(m0, .inr (8, mdL AM (upd (upd g 9 0) 10 (-1)))), (AM 0, .inl (cY 0, 72, .inl tb)), (AM 2, .inl (cY 0, 22, .inl sA)), (AM 3, .inl (cY 0, 22, .inl rd)), (AM 4, .inl (cY 0, 110, .inl kp)), (AM 5, .inl (cY 0, 8414, .inl td)), (AM 6, .inl (cY 0, 2, .inl (upd wn 1 ((wn 1) + 1)))), (AM 13, .inl (cY 0, 4, .inl rw)), (AM 14, .inl (cY 0, 4, .inl br))] H := hP1
        have hD : va_D A [(m0, .inr (8, mdL AM (upd (upd g 9 0) 10 (-1)))), (AM 0, .inl (cY 0, 72, .inl tb)), (AM 2, .inl (cY 0, 22, .inl sA)), (AM 3, .inl (cY 0, 22, .inl rd)), (AM 4, .inl (cY 0, 110, .inl kp)), (AM 5, .inl (cY 0, 8414, .inl td)), (AM 6, .inl (cY 0, 2, .inl (upd wn 1 ((wn 1) + 1)))), (AM 13, .inl (cY 0, 4, .inl rw)), (AM 14, .inl (cY 0, 4, .inl br))] := hD1
        have hS := hS1
        clear hP1 hD1 hS1
        have eo_14 : (X8_endRound_w0 g sA wn) = (upd (upd g 9 0) 10 (-1)) := by rw [X8_endRound_w0]; simp only [eq_true c_3, eq_false c_6, eq_false c_13, ↓reduceIte]
        have eo_15 : (X8_endRound_w6 sA wn) = (upd wn 1 ((wn 1) + 1)) := by rw [X8_endRound_w6]; simp only [eq_true c_3, eq_false c_6, ↓reduceIte]
        have hP9 : va_P (dC, dI) vwCl [(m0, .inr (8, mdL AM (X8_endRound_w0 g sA wn))), (AM 0, .inl (cY 0, 72, .inl tb)), (AM 2, .inl (cY 0, 22, .inl sA)), (AM 3, .inl (cY 0, 22, .inl rd)), (AM 4, .inl (cY 0, 110, .inl kp)), (AM 5, .inl (cY 0, 8414, .inl td)), (AM 6, .inl (cY 0, 2, .inl (X8_endRound_w6 sA wn))), (AM 13, .inl (cY 0, 4, .inl rw)), (AM 14, .inl (cY 0, 4, .inl br))] H := by simp only [eo_14, eo_15]; exact hP
        have hD9 : va_D A [(m0, .inr (8, mdL AM (X8_endRound_w0 g sA wn))), (AM 0, .inl (cY 0, 72, .inl tb)), (AM 2, .inl (cY 0, 22, .inl sA)), (AM 3, .inl (cY 0, 22, .inl rd)), (AM 4, .inl (cY 0, 110, .inl kp)), (AM 5, .inl (cY 0, 8414, .inl td)), (AM 6, .inl (cY 0, 2, .inl (X8_endRound_w6 sA wn))), (AM 13, .inl (cY 0, 4, .inl rw)), (AM 14, .inl (cY 0, 4, .inl br))] := by simp only [eo_14, eo_15]; exact hD
        exact W.vret hx hb hr (fun t ht hW => ⟨⟨(), rfl, trivial, wPost_of hP9 hD9 ht⟩, hS.F ht⟩) hS.2.2 dX8_endRound_81
      · refine lv_iload_n hx hb dX8_endRound_73 rfl (lv_at hl 0 rfl) ?_
        refine lv_goto (tgt := 78) hx hb dX8_endRound_74 (by decide) ?_
        refine va_put (D := (dC, dI)) (ci := 8) (v := .int 1) (ty := .int) (C := RX8) (T := TX8) (N := 17) hx hb hts inw_X8_endRound_X8 tyX8 tyX8_ok nmX8 hown hK hP hD hS 0 rfl rfl 10 (by decide) (hts (.fieldLink RX8 32 "DuelFramesModel" "winner" "I") (List.mem_of_getElem? (i := 4) rfl)) (fun _ h9 => h9) rfl (by decide +kernel) rfl rfl (Nat.le_of_ble_eq_true rfl) dX8_endRound_78 (fun H locs hP1 hD1 hS1 => ?_)
        clear hP hD hS
        have hP : va_P (dC, dI) vwCl [(m0, .inr (8, mdL AM (upd (upd g 9 0) 10 1))), (AM 0, .inl (cY 0, 72, .inl tb)), (AM 2, .inl (cY 0, 22, .inl sA)), (AM 3, .inl (cY 0, 22, .inl rd)), (AM 4, .inl (cY 0, 110, .inl kp)), (AM 5, .inl (cY 0, 8414, .inl td)), (AM 6, .inl (cY 0, 2, .inl (upd wn 1 ((wn 1) + 1)))), (AM 13, .inl (cY 0, 4, .inl rw)), (AM 14, .inl (cY 0, 4, .inl br))] H := hP1
        have hD : va_D A [(m0, .inr (8, mdL AM (upd (upd g 9 0) 10 1))), (AM 0, .inl (cY 0, 72, .inl tb)), (AM 2, .inl (cY 0, 22, .inl sA)), (AM 3, .inl (cY 0, 22, .inl rd)), (AM 4, .inl (cY 0, 110, .inl kp)), (AM 5, .inl (cY 0, 8414, .inl td)), (AM 6, .inl (cY 0, 2, .inl (upd wn 1 ((wn 1) + 1)))), (AM 13, .inl (cY 0, 4, .inl rw)), (AM 14, .inl (cY 0, 4, .inl br))] := hD1
        have hS := hS1
        clear hP1 hD1 hS1
        have eo_16 : (X8_endRound_w0 g sA wn) = (upd (upd g 9 0) 10 1) := by rw [X8_endRound_w0]; simp only [eq_true c_3, eq_false c_6, eq_true c_13, ↓reduceIte]
        have eo_17 : (X8_endRound_w6 sA wn) = (upd wn 1 ((wn 1) + 1)) := by rw [X8_endRound_w6]; simp only [eq_true c_3, eq_false c_6, ↓reduceIte]
        have hP9 : va_P (dC, dI) vwCl [(m0, .inr (8, mdL AM (X8_endRound_w0 g sA wn))), (AM 0, .inl (cY 0, 72, .inl tb)), (AM 2, .inl (cY 0, 22, .inl sA)), (AM 3, .inl (cY 0, 22, .inl rd)), (AM 4, .inl (cY 0, 110, .inl kp)), (AM 5, .inl (cY 0, 8414, .inl td)), (AM 6, .inl (cY 0, 2, .inl (X8_endRound_w6 sA wn))), (AM 13, .inl (cY 0, 4, .inl rw)), (AM 14, .inl (cY 0, 4, .inl br))] H := by simp only [eo_16, eo_17]; exact hP
        have hD9 : va_D A [(m0, .inr (8, mdL AM (X8_endRound_w0 g sA wn))), (AM 0, .inl (cY 0, 72, .inl tb)), (AM 2, .inl (cY 0, 22, .inl sA)), (AM 3, .inl (cY 0, 22, .inl rd)), (AM 4, .inl (cY 0, 110, .inl kp)), (AM 5, .inl (cY 0, 8414, .inl td)), (AM 6, .inl (cY 0, 2, .inl (X8_endRound_w6 sA wn))), (AM 13, .inl (cY 0, 4, .inl rw)), (AM 14, .inl (cY 0, 4, .inl br))] := by simp only [eo_16, eo_17]; exact hD
        exact W.vret hx hb hr (fun t ht hW => ⟨⟨(), rfl, trivial, wPost_of hP9 hD9 ht⟩, hS.F ht⟩) hS.2.2 dX8_endRound_81
  · refine lv_iconst (v := 0) hx hb dX8_endRound_21 (by decide) ?_
    refine lv_goto (tgt := 46) hx hb dX8_endRound_22 (by decide) ?_
    refine lv_istore_n (lv' := [(1, .int 0), (0, .ref m0)]) hx hb dX8_endRound_46 rfl hl (by decide) rfl (fun ls hl => ?_)
    refine lv_iload_n hx hb dX8_endRound_47 rfl (lv_at hl 0 rfl) ?_
    refine lv_iconst (v := (-1)) hx hb dX8_endRound_48 (by decide) ?_
    refine lv_icmp_eq (tgt := 81) hx hb dX8_endRound_49 (by decide) (fun c_18 => ?_) (fun c_18 => ?_)
    · exact absurd c_18 (by decide)
    refine lv_aload_n hx hb dX8_endRound_52 rfl (lv_at hl 1 rfl) ?_
    refine va_get (D := (dC, dI)) (ci := 8) (v := .ref (AM 6)) (C := RX8) (T := TX8) (N := 17) hx hb hts inw_X8_endRound_X8 hown hK hP 0 rfl rfl 6 (by decide) (hts (.fieldLink RX8 25 "DuelFramesModel" "won" "[I") (List.mem_of_getElem? (i := 3) rfl)) (fun _ h9 => h9) rfl dX8_endRound_53 ?_
    refine lv_iload_n hx hb dX8_endRound_56 rfl (lv_at hl 0 rfl) ?_
    refine lv_dup2_11 hx hb dX8_endRound_57 rfl rfl ?_
    refine va_iald hx hb hK hP 6 0 rfl rfl (vin rfl) dX8_endRound_58 ?_
    refine lv_topi (fun x_19 ex_19 => ?_)
    obtain rfl : x_19 = (wn 0) := ex_19
    refine lv_iconst (v := 1) hx hb dX8_endRound_59 (by decide) ?_
    refine lv_iadd hx hb dX8_endRound_60 ?_
    refine va_iast hx hb hK hP hD hS 6 0 rfl rfl (vin rfl) dX8_endRound_61 (fun H locs hP1 hD1 hS1 => ?_)
    clear hP hD hS
    have hP : va_P (dC, dI) vwCl [(m0, .inr (8, mdL AM (upd g 9 0))), (AM 0, .inl (cY 0, 72, .inl tb)), (AM 2, .inl (cY 0, 22, .inl sA)), (AM 3, .inl (cY 0, 22, .inl rd)), (AM 4, .inl (cY 0, 110, .inl kp)), (AM 5, .inl (cY 0, 8414, .inl td)), (AM 6, .inl (cY 0, 2, .inl (upd wn 0 ((wn 0) + 1)))), (AM 13, .inl (cY 0, 4, .inl rw)), (AM 14, .inl (cY 0, 4, .inl br))] H := hP1
    have hD : va_D A [(m0, .inr (8, mdL AM (upd g 9 0))), (AM 0, .inl (cY 0, 72, .inl tb)), (AM 2, .inl (cY 0, 22, .inl sA)), (AM 3, .inl (cY 0, 22, .inl rd)), (AM 4, .inl (cY 0, 110, .inl kp)), (AM 5, .inl (cY 0, 8414, .inl td)), (AM 6, .inl (cY 0, 2, .inl (upd wn 0 ((wn 0) + 1)))), (AM 13, .inl (cY 0, 4, .inl rw)), (AM 14, .inl (cY 0, 4, .inl br))] := hD1
    have hS := hS1
    clear hP1 hD1 hS1
    refine lv_aload_n hx hb dX8_endRound_62 rfl (lv_at hl 1 rfl) ?_
    refine lv_aload_n hx hb dX8_endRound_63 rfl (lv_at hl 1 rfl) ?_
    refine va_get (D := (dC, dI)) (ci := 8) (v := .ref (AM 6)) (C := RX8) (T := TX8) (N := 17) hx hb hts inw_X8_endRound_X8 hown hK hP 0 rfl rfl 6 (by decide) (hts (.fieldLink RX8 25 "DuelFramesModel" "won" "[I") (List.mem_of_getElem? (i := 3) rfl)) (fun _ h9 => h9) rfl dX8_endRound_64 ?_
    refine lv_iload_n hx hb dX8_endRound_67 rfl (lv_at hl 0 rfl) ?_
    refine va_iald hx hb hK hP 6 0 rfl rfl (vin rfl) dX8_endRound_68 ?_
    refine lv_topi (fun x_20 ex_20 => ?_)
    obtain rfl : x_20 = ((wn 0) + 1) := ex_20
    refine lv_iconst (v := 2) hx hb dX8_endRound_69 (by decide) ?_
    refine lv_icmp_ne (tgt := 77) hx hb dX8_endRound_70 (by decide) (fun c_21 => ?_) (fun c_21 => ?_)
    · refine lv_iconst (v := (-1)) hx hb dX8_endRound_77 (by decide) ?_
      refine va_put (D := (dC, dI)) (ci := 8) (v := .int (-1)) (ty := .int) (C := RX8) (T := TX8) (N := 17) hx hb hts inw_X8_endRound_X8 tyX8 tyX8_ok nmX8 hown hK hP hD hS 0 rfl rfl 10 (by decide) (hts (.fieldLink RX8 32 "DuelFramesModel" "winner" "I") (List.mem_of_getElem? (i := 4) rfl)) (fun _ h9 => h9) rfl (by decide +kernel) rfl rfl (Nat.le_of_ble_eq_true rfl) dX8_endRound_78 (fun H locs hP1 hD1 hS1 => ?_)
      clear hP hD hS
      have hP : va_P (dC, dI) vwCl [(m0, .inr (8, mdL AM (upd (upd g 9 0) 10 (-1)))), (AM 0, .inl (cY 0, 72, .inl tb)), (AM 2, .inl (cY 0, 22, .inl sA)), (AM 3, .inl (cY 0, 22, .inl rd)), (AM 4, .inl (cY 0, 110, .inl kp)), (AM 5, .inl (cY 0, 8414, .inl td)), (AM 6, .inl (cY 0, 2, .inl (upd wn 0 ((wn 0) + 1)))), (AM 13, .inl (cY 0, 4, .inl rw)), (AM 14, .inl (cY 0, 4, .inl br))] H := hP1
      have hD : va_D A [(m0, .inr (8, mdL AM (upd (upd g 9 0) 10 (-1)))), (AM 0, .inl (cY 0, 72, .inl tb)), (AM 2, .inl (cY 0, 22, .inl sA)), (AM 3, .inl (cY 0, 22, .inl rd)), (AM 4, .inl (cY 0, 110, .inl kp)), (AM 5, .inl (cY 0, 8414, .inl td)), (AM 6, .inl (cY 0, 2, .inl (upd wn 0 ((wn 0) + 1)))), (AM 13, .inl (cY 0, 4, .inl rw)), (AM 14, .inl (cY 0, 4, .inl br))] := hD1
      have hS := hS1
      clear hP1 hD1 hS1
      have eo_22 : (X8_endRound_w0 g sA wn) = (upd (upd g 9 0) 10 (-1)) := by rw [X8_endRound_w0]; simp only [eq_false c_3, eq_false c_21, ↓reduceIte]
      have eo_23 : (X8_endRound_w6 sA wn) = (upd wn 0 ((wn 0) + 1)) := by rw [X8_endRound_w6]; simp only [eq_false c_3, ↓reduceIte]
      have hP9 : va_P (dC, dI) vwCl [(m0, .inr (8, mdL AM (X8_endRound_w0 g sA wn))), (AM 0, .inl (cY 0, 72, .inl tb)), (AM 2, .inl (cY 0, 22, .inl sA)), (AM 3, .inl (cY 0, 22, .inl rd)), (AM 4, .inl (cY 0, 110, .inl kp)), (AM 5, .inl (cY 0, 8414, .inl td)), (AM 6, .inl (cY 0, 2, .inl (X8_endRound_w6 sA wn))), (AM 13, .inl (cY 0, 4, .inl rw)), (AM 14, .inl (cY 0, 4, .inl br))] H := by simp only [eo_22, eo_23]; exact hP
      have hD9 : va_D A [(m0, .inr (8, mdL AM (X8_endRound_w0 g sA wn))), (AM 0, .inl (cY 0, 72, .inl tb)), (AM 2, .inl (cY 0, 22, .inl sA)), (AM 3, .inl (cY 0, 22, .inl rd)), (AM 4, .inl (cY 0, 110, .inl kp)), (AM 5, .inl (cY 0, 8414, .inl td)), (AM 6, .inl (cY 0, 2, .inl (X8_endRound_w6 sA wn))), (AM 13, .inl (cY 0, 4, .inl rw)), (AM 14, .inl (cY 0, 4, .inl br))] := by simp only [eo_22, eo_23]; exact hD
      exact W.vret hx hb hr (fun t ht hW => ⟨⟨(), rfl, trivial, wPost_of hP9 hD9 ht⟩, hS.F ht⟩) hS.2.2 dX8_endRound_81
    · refine lv_iload_n hx hb dX8_endRound_73 rfl (lv_at hl 0 rfl) ?_
      refine lv_goto (tgt := 78) hx hb dX8_endRound_74 (by decide) ?_
      refine va_put (D := (dC, dI)) (ci := 8) (v := .int 0) (ty := .int) (C := RX8) (T := TX8) (N := 17) hx hb hts inw_X8_endRound_X8 tyX8 tyX8_ok nmX8 hown hK hP hD hS 0 rfl rfl 10 (by decide) (hts (.fieldLink RX8 32 "DuelFramesModel" "winner" "I") (List.mem_of_getElem? (i := 4) rfl)) (fun _ h9 => h9) rfl (by decide +kernel) rfl rfl (Nat.le_of_ble_eq_true rfl) dX8_endRound_78 (fun H locs hP1 hD1 hS1 => ?_)
      clear hP hD hS
      have hP : va_P (dC, dI) vwCl [(m0, .inr (8, mdL AM (upd (upd g 9 0) 10 0))), (AM 0, .inl (cY 0, 72, .inl tb)), (AM 2, .inl (cY 0, 22, .inl sA)), (AM 3, .inl (cY 0, 22, .inl rd)), (AM 4, .inl (cY 0, 110, .inl kp)), (AM 5, .inl (cY 0, 8414, .inl td)), (AM 6, .inl (cY 0, 2, .inl (upd wn 0 ((wn 0) + 1)))), (AM 13, .inl (cY 0, 4, .inl rw)), (AM 14, .inl (cY 0, 4, .inl br))] H := hP1
      have hD : va_D A [(m0, .inr (8, mdL AM (upd (upd g 9 0) 10 0))), (AM 0, .inl (cY 0, 72, .inl tb)), (AM 2, .inl (cY 0, 22, .inl sA)), (AM 3, .inl (cY 0, 22, .inl rd)), (AM 4, .inl (cY 0, 110, .inl kp)), (AM 5, .inl (cY 0, 8414, .inl td)), (AM 6, .inl (cY 0, 2, .inl (upd wn 0 ((wn 0) + 1)))), (AM 13, .inl (cY 0, 4, .inl rw)), (AM 14, .inl (cY 0, 4, .inl br))] := hD1
      have hS := hS1
      clear hP1 hD1 hS1
      have eo_24 : (X8_endRound_w0 g sA wn) = (upd (upd g 9 0) 10 0) := by rw [X8_endRound_w0]; simp only [eq_false c_3, eq_true c_21, ↓reduceIte]
      have eo_25 : (X8_endRound_w6 sA wn) = (upd wn 0 ((wn 0) + 1)) := by rw [X8_endRound_w6]; simp only [eq_false c_3, ↓reduceIte]
      have hP9 : va_P (dC, dI) vwCl [(m0, .inr (8, mdL AM (X8_endRound_w0 g sA wn))), (AM 0, .inl (cY 0, 72, .inl tb)), (AM 2, .inl (cY 0, 22, .inl sA)), (AM 3, .inl (cY 0, 22, .inl rd)), (AM 4, .inl (cY 0, 110, .inl kp)), (AM 5, .inl (cY 0, 8414, .inl td)), (AM 6, .inl (cY 0, 2, .inl (X8_endRound_w6 sA wn))), (AM 13, .inl (cY 0, 4, .inl rw)), (AM 14, .inl (cY 0, 4, .inl br))] H := by simp only [eo_24, eo_25]; exact hP
      have hD9 : va_D A [(m0, .inr (8, mdL AM (X8_endRound_w0 g sA wn))), (AM 0, .inl (cY 0, 72, .inl tb)), (AM 2, .inl (cY 0, 22, .inl sA)), (AM 3, .inl (cY 0, 22, .inl rd)), (AM 4, .inl (cY 0, 110, .inl kp)), (AM 5, .inl (cY 0, 8414, .inl td)), (AM 6, .inl (cY 0, 2, .inl (X8_endRound_w6 sA wn))), (AM 13, .inl (cY 0, 4, .inl rw)), (AM 14, .inl (cY 0, 4, .inl br))] := by simp only [eo_24, eo_25]; exact hD
      exact W.vret hx hb hr (fun t ht hW => ⟨⟨(), rfl, trivial, wPost_of hP9 hD9 ht⟩, hS.F ht⟩) hS.2.2 dX8_endRound_81
theorem inw_X8_goesOn_X8 : ∀ w ∈ u_ws RX8 TX8 17, w ∈ wsX8_goesOn := fun _ h => List.mem_cons_of_mem _ (List.mem_append_right _ h)
def X8_goesOn_w0 (g : Nat → Int32) : Nat → Int32 := (upd g 12 0)
def X8_goesOn_r (g : Nat → Int32) : Int32 := (g 9)
set_option maxHeartbeats 4000000 in
set_option maxRecDepth 100000 in
theorem c_X8_goesOn (l : Launch) (dC : Nat → ClassId) (dI : Nat → Nat → Nat) (cY : Nat → ClassId) (m0 : Nat) (AM : Nat → Nat) (g : Nat → Int32) (tb : Nat → Int32) (sA : Nat → Int32) (rd : Nat → Int32) (kp : Nat → Int32) (td : Nat → Int32) (wn : Nat → Int32) (rw : Nat → Int32) (br : Nat → Int32) (hg9 : g 9 = 0 ∨ g 9 = 1) (sz : Nat) : Met l yX8_goesOn wsX8_goesOn ({ frames := 1, cells := 0, slots := 0, locals := 21 } : Room) (va_Pc [.ref m0] (wPre (dC, dI) (tyL cY) [(m0, .inr (8, mdL AM g)), (AM 0, .inl (cY 0, 72, .inl tb)), (AM 2, .inl (cY 0, 22, .inl sA)), (AM 3, .inl (cY 0, 22, .inl rd)), (AM 4, .inl (cY 0, 110, .inl kp)), (AM 5, .inl (cY 0, 8414, .inl td)), (AM 6, .inl (cY 0, 2, .inl wn)), (AM 13, .inl (cY 0, 4, .inl rw)), (AM 14, .inl (cY 0, 4, .inl br))] sz)) (va_Qi (fun (r : Int32) (_ : Unit) => r = (X8_goesOn_r g) ∧ (r = 0 ∨ r = 1)) (wPost (dC, dI) [(m0, .inr (8, mdL AM (X8_goesOn_w0 g))), (AM 0, .inl (cY 0, 72, .inl tb)), (AM 2, .inl (cY 0, 22, .inl sA)), (AM 3, .inl (cY 0, 22, .inl rd)), (AM 4, .inl (cY 0, 110, .inl kp)), (AM 5, .inl (cY 0, 8414, .inl td)), (AM 6, .inl (cY 0, 2, .inl wn)), (AM 13, .inl (cY 0, 4, .inl rw)), (AM 14, .inl (cY 0, 4, .inl br))] (va_A [(m0, .inr (8, mdL AM g)), (AM 0, .inl (cY 0, 72, .inl tb)), (AM 2, .inl (cY 0, 22, .inl sA)), (AM 3, .inl (cY 0, 22, .inl rd)), (AM 4, .inl (cY 0, 110, .inl kp)), (AM 5, .inl (cY 0, 8414, .inl td)), (AM 6, .inl (cY 0, 2, .inl wn)), (AM 13, .inl (cY 0, 4, .inl rw)), (AM 14, .inl (cY 0, 4, .inl br))] sz)) (va_A [(m0, .inr (8, mdL AM g)), (AM 0, .inl (cY 0, 72, .inl tb)), (AM 2, .inl (cY 0, 22, .inl sA)), (AM 3, .inl (cY 0, 22, .inl rd)), (AM 4, .inl (cY 0, 110, .inl kp)), (AM 5, .inl (cY 0, 8414, .inl td)), (AM 6, .inl (cY 0, 2, .inl wn)), (AM 13, .inl (cY 0, 4, .inl rw)), (AM 14, .inl (cY 0, 4, .inl br))] sz)) 0 0 (va_A [(m0, .inr (8, mdL AM g)), (AM 0, .inl (cY 0, 72, .inl tb)), (AM 2, .inl (cY 0, 22, .inl sA)), (AM 3, .inl (cY 0, 22, .inl rd)), (AM 4, .inl (cY 0, 110, .inl kp)), (AM 5, .inl (cY 0, 8414, .inl td)), (AM 6, .inl (cY 0, 2, .inl wn)), (AM 13, .inl (cY 0, 4, .inl rw)), (AM 14, .inl (cY 0, 4, .inl br))] sz) := by
  refine Met.ofW (cc := cX8_goesOn) (maxL := 1) (ret := (some .boolean)) (by decide) rfl ?_
  intro p e s m args below meth c s₁ B hml hv
  obtain ⟨rfl, hsz, hP, hK, hN, hD0⟩ := hv
  have hx := B.exec
  have hb := B.bytes
  have hr := B.returns
  have hts := atoms_spec (ws := wsX8_goesOn) B.pre
  have hown : s.vm.findClass RX8 = some m.cls := findClass_of_methodNamed B.named
  have hlocks := B.notSynchronized
  subst hsz
  have hD := hD0.self (sz := s.heap.size)
  generalize hAe : va_A [(m0, .inr (8, mdL AM g)), (AM 0, .inl (cY 0, 72, .inl tb)), (AM 2, .inl (cY 0, 22, .inl sA)), (AM 3, .inl (cY 0, 22, .inl rd)), (AM 4, .inl (cY 0, 110, .inl kp)), (AM 5, .inl (cY 0, 8414, .inl td)), (AM 6, .inl (cY 0, 2, .inl wn)), (AM 13, .inl (cY 0, 4, .inl rw)), (AM 14, .inl (cY 0, 4, .inl br))] s.heap.size = A at hD ⊢
  have hA : ∀ q : Nat, s.heap.size ≤ q → A q := fun q h => by rw [← hAe]; exact Or.inr h
  have hS : va_S A s.heap s.heap [] := va_S.rf
  have hP : va_P (dC, dI) vwCl [(m0, .inr (8, mdL AM g)), (AM 0, .inl (cY 0, 72, .inl tb)), (AM 2, .inl (cY 0, 22, .inl sA)), (AM 3, .inl (cY 0, 22, .inl rd)), (AM 4, .inl (cY 0, 110, .inl kp)), (AM 5, .inl (cY 0, 8414, .inl td)), (AM 6, .inl (cY 0, 2, .inl wn)), (AM 13, .inl (cY 0, 4, .inl rw)), (AM 14, .inl (cY 0, 4, .inl br))] s.heap := hP
  have hl := lv_entry ([.ref m0]) (n := 1) (Nat.le_of_ble_eq_true rfl)
  rw [lg_entry_eq]
  generalize (lg_sl ([.ref m0]) ++ List.replicate (1 - (lg_sl ([.ref m0])).length) Slot.unset).toArray = ls at hl ⊢
  have hl : lv_has ls 1 [(0, .ref m0)] := hl
  refine lv_aload_n hx hb dX8_goesOn_0 rfl (lv_at hl 0 rfl) ?_
  refine lv_iconst (v := 0) hx hb dX8_goesOn_1 (by decide) ?_
  have hPc := hP.sub (ws' := [(m0, .inr (8, mdL AM g)), (AM 0, .inl (cY 0, 72, .inl tb)), (AM 2, .inl (cY 0, 22, .inl sA)), (AM 3, .inl (cY 0, 22, .inl rd)), (AM 4, .inl (cY 0, 110, .inl kp)), (AM 5, .inl (cY 0, 8414, .inl td)), (AM 6, .inl (cY 0, 2, .inl wn)), (AM 13, .inl (cY 0, 4, .inl rw)), (AM 14, .inl (cY 0, 4, .inl br))]) [0, 1, 2, 3, 4, 5, 6, 7, 8] rfl
  have hDc := hD.sub (ws' := [(m0, .inr (8, mdL AM g)), (AM 0, .inl (cY 0, 72, .inl tb)), (AM 2, .inl (cY 0, 22, .inl sA)), (AM 3, .inl (cY 0, 22, .inl rd)), (AM 4, .inl (cY 0, 110, .inl kp)), (AM 5, .inl (cY 0, 8414, .inl td)), (AM 6, .inl (cY 0, 2, .inl wn)), (AM 13, .inl (cY 0, 4, .inl rw)), (AM 14, .inl (cY 0, 4, .inl br))]) [0, 1, 2, 3, 4, 5, 6, 7, 8] (by decide) rfl
  have hFc := va_free (wc := [(m0, .inr (8, mdL AM g)), (AM 0, .inl (cY 0, 72, .inl tb)), (AM 2, .inl (cY 0, 22, .inl sA)), (AM 3, .inl (cY 0, 22, .inl rd)), (AM 4, .inl (cY 0, 110, .inl kp)), (AM 5, .inl (cY 0, 8414, .inl td)), (AM 6, .inl (cY 0, 2, .inl wn)), (AM 13, .inl (cY 0, 4, .inl rw)), (AM 14, .inl (cY 0, 4, .inl br))]) hD hS hA [0, 1, 2, 3, 4, 5, 6, 7, 8] rfl
  refine va_calli (va_runV (As := [.int 0]) (rest := []) ⟨hx, hb, hml, hown, hts⟩ (c_X8_isFine l dC dI cY m0 AM g tb sA rd kp td wn rw br 0 s.heap.size) (cwV 1 hts gX8_goesOn_X8_isFine rfl rfl rfl (by decide +kernel) ⟨Nat.le_of_ble_eq_true rfl, Nat.le_of_ble_eq_true rfl⟩) ⟨blindW, va_recv hK hPc (ci := 8) (q0 := 0) rfl rfl, fun U hU hW => ⟨rfl, wPre_of hPc hK hN hDc U hU hW⟩⟩ rfl rfl hl.1 rfl (lv_room (Nat.le_of_ble_eq_true rfl)) dX8_goesOn_2 ⟨Nat.zero_le _, Nat.zero_le _⟩) hS (fun q _ h => hFc q h) hFc (fun r_1 u t H1 locs ht hvm hw hB hz1 hk1 hS1 => ?_)
  obtain ⟨hw, hb_2⟩ := hw
  subst hw
  refine lv_topi (fun x_3 ex_3 => ?_)
  obtain rfl : x_3 = 1 := ex_3.trans (by decide)
  have hJ := wJoin (wr := []) (w1 := [(m0, .inr (8, mdL AM (upd g 12 0))), (AM 0, .inl (cY 0, 72, .inl tb)), (AM 2, .inl (cY 0, 22, .inl sA)), (AM 3, .inl (cY 0, 22, .inl rd)), (AM 4, .inl (cY 0, 110, .inl kp)), (AM 5, .inl (cY 0, 8414, .inl td)), (AM 6, .inl (cY 0, 2, .inl wn)), (AM 13, .inl (cY 0, 4, .inl rw)), (AM 14, .inl (cY 0, 4, .inl br))]) (wn := [(m0, .inr (8, mdL AM (upd g 12 0))), (AM 0, .inl (cY 0, 72, .inl tb)), (AM 2, .inl (cY 0, 22, .inl sA)), (AM 3, .inl (cY 0, 22, .inl rd)), (AM 4, .inl (cY 0, 110, .inl kp)), (AM 5, .inl (cY 0, 8414, .inl td)), (AM 6, .inl (cY 0, 2, .inl wn)), (AM 13, .inl (cY 0, 4, .inl rw)), (AM 14, .inl (cY 0, 4, .inl br))]) hP hD [0, 1, 2, 3, 4, 5, 6, 7, 8] [] rfl rfl (by decide) (by decide) hk1 hFc hB ht [0, 1, 2, 3, 4, 5, 6, 7, 8] rfl (by decide)
  clear hB hk1 hFc hPc hDc hP hD hS hz1 hvm ht t
  obtain ⟨hP1, hD1⟩ := hJ
  generalize H1 = H at hP1 hS1 ⊢
  have hP : va_P (dC, dI) vwCl [(m0, .inr (8, mdL AM (upd g 12 0))), (AM 0, .inl (cY 0, 72, .inl tb)), (AM 2, .inl (cY 0, 22, .inl sA)), (AM 3, .inl (cY 0, 22, .inl rd)), (AM 4, .inl (cY 0, 110, .inl kp)), (AM 5, .inl (cY 0, 8414, .inl td)), (AM 6, .inl (cY 0, 2, .inl wn)), (AM 13, .inl (cY 0, 4, .inl rw)), (AM 14, .inl (cY 0, 4, .inl br))] H := hP1
  have hD : va_D A [(m0, .inr (8, mdL AM (upd g 12 0))), (AM 0, .inl (cY 0, 72, .inl tb)), (AM 2, .inl (cY 0, 22, .inl sA)), (AM 3, .inl (cY 0, 22, .inl rd)), (AM 4, .inl (cY 0, 110, .inl kp)), (AM 5, .inl (cY 0, 8414, .inl td)), (AM 6, .inl (cY 0, 2, .inl wn)), (AM 13, .inl (cY 0, 4, .inl rw)), (AM 14, .inl (cY 0, 4, .inl br))] := hD1
  have hS := hS1
  clear hP1 hD1 hS1
  refine lv_pop hx hb dX8_goesOn_5 rfl ?_
  refine lv_aload_n hx hb dX8_goesOn_6 rfl (lv_at hl 0 rfl) ?_
  refine va_get (D := (dC, dI)) (ci := 8) (v := .int (g 9)) (C := RX8) (T := TX8) (N := 17) hx hb hts inw_X8_goesOn_X8 hown hK hP 0 rfl rfl 9 (by decide) (hts (.fieldLink RX8 51 "DuelFramesModel" "goesOn" "Z") (List.mem_of_getElem? (i := 1) rfl)) (fun _ h9 => h9) rfl dX8_goesOn_7 ?_
  have eo_4 : (X8_goesOn_r g) = (g 9) := by rw [X8_goesOn_r]
  have eo_5 : (X8_goesOn_w0 g) = (upd g 12 0) := by rw [X8_goesOn_w0]
  have hP9 : va_P (dC, dI) vwCl [(m0, .inr (8, mdL AM (X8_goesOn_w0 g))), (AM 0, .inl (cY 0, 72, .inl tb)), (AM 2, .inl (cY 0, 22, .inl sA)), (AM 3, .inl (cY 0, 22, .inl rd)), (AM 4, .inl (cY 0, 110, .inl kp)), (AM 5, .inl (cY 0, 8414, .inl td)), (AM 6, .inl (cY 0, 2, .inl wn)), (AM 13, .inl (cY 0, 4, .inl rw)), (AM 14, .inl (cY 0, 4, .inl br))] H := by simp only [eo_5]; exact hP
  have hD9 : va_D A [(m0, .inr (8, mdL AM (X8_goesOn_w0 g))), (AM 0, .inl (cY 0, 72, .inl tb)), (AM 2, .inl (cY 0, 22, .inl sA)), (AM 3, .inl (cY 0, 22, .inl rd)), (AM 4, .inl (cY 0, 110, .inl kp)), (AM 5, .inl (cY 0, 8414, .inl td)), (AM 6, .inl (cY 0, 2, .inl wn)), (AM 13, .inl (cY 0, 4, .inl rw)), (AM 14, .inl (cY 0, 4, .inl br))] := by simp only [eo_5]; exact hD
  exact W.zret (v := (g 9)) (ty := .boolean) hx hb hr (zb_n hg9) (fun t ht hW => ⟨⟨_, (), rfl, ⟨eo_4.symm, hg9⟩, wPost_of hP9 hD9 ht⟩, hS.F ht⟩) hS.2.2 dX8_goesOn_10
theorem inw_X8_winner_X8 : ∀ w ∈ u_ws RX8 TX8 17, w ∈ wsX8_winner := fun _ h => List.mem_cons_of_mem _ (List.mem_append_right _ h)
def X8_winner_w0 (g : Nat → Int32) : Nat → Int32 := (upd g 12 0)
def X8_winner_r (g : Nat → Int32) : Int32 := (g 10)
set_option maxHeartbeats 4000000 in
set_option maxRecDepth 100000 in
theorem c_X8_winner (l : Launch) (dC : Nat → ClassId) (dI : Nat → Nat → Nat) (cY : Nat → ClassId) (m0 : Nat) (AM : Nat → Nat) (g : Nat → Int32) (tb : Nat → Int32) (sA : Nat → Int32) (rd : Nat → Int32) (kp : Nat → Int32) (td : Nat → Int32) (wn : Nat → Int32) (rw : Nat → Int32) (br : Nat → Int32)  (sz : Nat) : Met l yX8_winner wsX8_winner ({ frames := 1, cells := 0, slots := 0, locals := 21 } : Room) (va_Pc [.ref m0] (wPre (dC, dI) (tyL cY) [(m0, .inr (8, mdL AM g)), (AM 0, .inl (cY 0, 72, .inl tb)), (AM 2, .inl (cY 0, 22, .inl sA)), (AM 3, .inl (cY 0, 22, .inl rd)), (AM 4, .inl (cY 0, 110, .inl kp)), (AM 5, .inl (cY 0, 8414, .inl td)), (AM 6, .inl (cY 0, 2, .inl wn)), (AM 13, .inl (cY 0, 4, .inl rw)), (AM 14, .inl (cY 0, 4, .inl br))] sz)) (va_Qi (fun (r : Int32) (_ : Unit) => r = (X8_winner_r g)) (wPost (dC, dI) [(m0, .inr (8, mdL AM (X8_winner_w0 g))), (AM 0, .inl (cY 0, 72, .inl tb)), (AM 2, .inl (cY 0, 22, .inl sA)), (AM 3, .inl (cY 0, 22, .inl rd)), (AM 4, .inl (cY 0, 110, .inl kp)), (AM 5, .inl (cY 0, 8414, .inl td)), (AM 6, .inl (cY 0, 2, .inl wn)), (AM 13, .inl (cY 0, 4, .inl rw)), (AM 14, .inl (cY 0, 4, .inl br))] (va_A [(m0, .inr (8, mdL AM g)), (AM 0, .inl (cY 0, 72, .inl tb)), (AM 2, .inl (cY 0, 22, .inl sA)), (AM 3, .inl (cY 0, 22, .inl rd)), (AM 4, .inl (cY 0, 110, .inl kp)), (AM 5, .inl (cY 0, 8414, .inl td)), (AM 6, .inl (cY 0, 2, .inl wn)), (AM 13, .inl (cY 0, 4, .inl rw)), (AM 14, .inl (cY 0, 4, .inl br))] sz)) (va_A [(m0, .inr (8, mdL AM g)), (AM 0, .inl (cY 0, 72, .inl tb)), (AM 2, .inl (cY 0, 22, .inl sA)), (AM 3, .inl (cY 0, 22, .inl rd)), (AM 4, .inl (cY 0, 110, .inl kp)), (AM 5, .inl (cY 0, 8414, .inl td)), (AM 6, .inl (cY 0, 2, .inl wn)), (AM 13, .inl (cY 0, 4, .inl rw)), (AM 14, .inl (cY 0, 4, .inl br))] sz)) 0 0 (va_A [(m0, .inr (8, mdL AM g)), (AM 0, .inl (cY 0, 72, .inl tb)), (AM 2, .inl (cY 0, 22, .inl sA)), (AM 3, .inl (cY 0, 22, .inl rd)), (AM 4, .inl (cY 0, 110, .inl kp)), (AM 5, .inl (cY 0, 8414, .inl td)), (AM 6, .inl (cY 0, 2, .inl wn)), (AM 13, .inl (cY 0, 4, .inl rw)), (AM 14, .inl (cY 0, 4, .inl br))] sz) := by
  refine Met.ofW (cc := cX8_winner) (maxL := 1) (ret := (some .int)) (by decide) rfl ?_
  intro p e s m args below meth c s₁ B hml hv
  obtain ⟨rfl, hsz, hP, hK, hN, hD0⟩ := hv
  have hx := B.exec
  have hb := B.bytes
  have hr := B.returns
  have hts := atoms_spec (ws := wsX8_winner) B.pre
  have hown : s.vm.findClass RX8 = some m.cls := findClass_of_methodNamed B.named
  have hlocks := B.notSynchronized
  subst hsz
  have hD := hD0.self (sz := s.heap.size)
  generalize hAe : va_A [(m0, .inr (8, mdL AM g)), (AM 0, .inl (cY 0, 72, .inl tb)), (AM 2, .inl (cY 0, 22, .inl sA)), (AM 3, .inl (cY 0, 22, .inl rd)), (AM 4, .inl (cY 0, 110, .inl kp)), (AM 5, .inl (cY 0, 8414, .inl td)), (AM 6, .inl (cY 0, 2, .inl wn)), (AM 13, .inl (cY 0, 4, .inl rw)), (AM 14, .inl (cY 0, 4, .inl br))] s.heap.size = A at hD ⊢
  have hA : ∀ q : Nat, s.heap.size ≤ q → A q := fun q h => by rw [← hAe]; exact Or.inr h
  have hS : va_S A s.heap s.heap [] := va_S.rf
  have hP : va_P (dC, dI) vwCl [(m0, .inr (8, mdL AM g)), (AM 0, .inl (cY 0, 72, .inl tb)), (AM 2, .inl (cY 0, 22, .inl sA)), (AM 3, .inl (cY 0, 22, .inl rd)), (AM 4, .inl (cY 0, 110, .inl kp)), (AM 5, .inl (cY 0, 8414, .inl td)), (AM 6, .inl (cY 0, 2, .inl wn)), (AM 13, .inl (cY 0, 4, .inl rw)), (AM 14, .inl (cY 0, 4, .inl br))] s.heap := hP
  have hl := lv_entry ([.ref m0]) (n := 1) (Nat.le_of_ble_eq_true rfl)
  rw [lg_entry_eq]
  generalize (lg_sl ([.ref m0]) ++ List.replicate (1 - (lg_sl ([.ref m0])).length) Slot.unset).toArray = ls at hl ⊢
  have hl : lv_has ls 1 [(0, .ref m0)] := hl
  refine lv_aload_n hx hb dX8_winner_0 rfl (lv_at hl 0 rfl) ?_
  refine lv_iconst (v := 0) hx hb dX8_winner_1 (by decide) ?_
  have hPc := hP.sub (ws' := [(m0, .inr (8, mdL AM g)), (AM 0, .inl (cY 0, 72, .inl tb)), (AM 2, .inl (cY 0, 22, .inl sA)), (AM 3, .inl (cY 0, 22, .inl rd)), (AM 4, .inl (cY 0, 110, .inl kp)), (AM 5, .inl (cY 0, 8414, .inl td)), (AM 6, .inl (cY 0, 2, .inl wn)), (AM 13, .inl (cY 0, 4, .inl rw)), (AM 14, .inl (cY 0, 4, .inl br))]) [0, 1, 2, 3, 4, 5, 6, 7, 8] rfl
  have hDc := hD.sub (ws' := [(m0, .inr (8, mdL AM g)), (AM 0, .inl (cY 0, 72, .inl tb)), (AM 2, .inl (cY 0, 22, .inl sA)), (AM 3, .inl (cY 0, 22, .inl rd)), (AM 4, .inl (cY 0, 110, .inl kp)), (AM 5, .inl (cY 0, 8414, .inl td)), (AM 6, .inl (cY 0, 2, .inl wn)), (AM 13, .inl (cY 0, 4, .inl rw)), (AM 14, .inl (cY 0, 4, .inl br))]) [0, 1, 2, 3, 4, 5, 6, 7, 8] (by decide) rfl
  have hFc := va_free (wc := [(m0, .inr (8, mdL AM g)), (AM 0, .inl (cY 0, 72, .inl tb)), (AM 2, .inl (cY 0, 22, .inl sA)), (AM 3, .inl (cY 0, 22, .inl rd)), (AM 4, .inl (cY 0, 110, .inl kp)), (AM 5, .inl (cY 0, 8414, .inl td)), (AM 6, .inl (cY 0, 2, .inl wn)), (AM 13, .inl (cY 0, 4, .inl rw)), (AM 14, .inl (cY 0, 4, .inl br))]) hD hS hA [0, 1, 2, 3, 4, 5, 6, 7, 8] rfl
  refine va_calli (va_runV (As := [.int 0]) (rest := []) ⟨hx, hb, hml, hown, hts⟩ (c_X8_isFine l dC dI cY m0 AM g tb sA rd kp td wn rw br 0 s.heap.size) (cwV 1 hts gX8_winner_X8_isFine rfl rfl rfl (by decide +kernel) ⟨Nat.le_of_ble_eq_true rfl, Nat.le_of_ble_eq_true rfl⟩) ⟨blindW, va_recv hK hPc (ci := 8) (q0 := 0) rfl rfl, fun U hU hW => ⟨rfl, wPre_of hPc hK hN hDc U hU hW⟩⟩ rfl rfl hl.1 rfl (lv_room (Nat.le_of_ble_eq_true rfl)) dX8_winner_2 ⟨Nat.zero_le _, Nat.zero_le _⟩) hS (fun q _ h => hFc q h) hFc (fun r_1 u t H1 locs ht hvm hw hB hz1 hk1 hS1 => ?_)
  obtain ⟨hw, hb_2⟩ := hw
  subst hw
  refine lv_topi (fun x_3 ex_3 => ?_)
  obtain rfl : x_3 = 1 := ex_3.trans (by decide)
  have hJ := wJoin (wr := []) (w1 := [(m0, .inr (8, mdL AM (upd g 12 0))), (AM 0, .inl (cY 0, 72, .inl tb)), (AM 2, .inl (cY 0, 22, .inl sA)), (AM 3, .inl (cY 0, 22, .inl rd)), (AM 4, .inl (cY 0, 110, .inl kp)), (AM 5, .inl (cY 0, 8414, .inl td)), (AM 6, .inl (cY 0, 2, .inl wn)), (AM 13, .inl (cY 0, 4, .inl rw)), (AM 14, .inl (cY 0, 4, .inl br))]) (wn := [(m0, .inr (8, mdL AM (upd g 12 0))), (AM 0, .inl (cY 0, 72, .inl tb)), (AM 2, .inl (cY 0, 22, .inl sA)), (AM 3, .inl (cY 0, 22, .inl rd)), (AM 4, .inl (cY 0, 110, .inl kp)), (AM 5, .inl (cY 0, 8414, .inl td)), (AM 6, .inl (cY 0, 2, .inl wn)), (AM 13, .inl (cY 0, 4, .inl rw)), (AM 14, .inl (cY 0, 4, .inl br))]) hP hD [0, 1, 2, 3, 4, 5, 6, 7, 8] [] rfl rfl (by decide) (by decide) hk1 hFc hB ht [0, 1, 2, 3, 4, 5, 6, 7, 8] rfl (by decide)
  clear hB hk1 hFc hPc hDc hP hD hS hz1 hvm ht t
  obtain ⟨hP1, hD1⟩ := hJ
  generalize H1 = H at hP1 hS1 ⊢
  have hP : va_P (dC, dI) vwCl [(m0, .inr (8, mdL AM (upd g 12 0))), (AM 0, .inl (cY 0, 72, .inl tb)), (AM 2, .inl (cY 0, 22, .inl sA)), (AM 3, .inl (cY 0, 22, .inl rd)), (AM 4, .inl (cY 0, 110, .inl kp)), (AM 5, .inl (cY 0, 8414, .inl td)), (AM 6, .inl (cY 0, 2, .inl wn)), (AM 13, .inl (cY 0, 4, .inl rw)), (AM 14, .inl (cY 0, 4, .inl br))] H := hP1
  have hD : va_D A [(m0, .inr (8, mdL AM (upd g 12 0))), (AM 0, .inl (cY 0, 72, .inl tb)), (AM 2, .inl (cY 0, 22, .inl sA)), (AM 3, .inl (cY 0, 22, .inl rd)), (AM 4, .inl (cY 0, 110, .inl kp)), (AM 5, .inl (cY 0, 8414, .inl td)), (AM 6, .inl (cY 0, 2, .inl wn)), (AM 13, .inl (cY 0, 4, .inl rw)), (AM 14, .inl (cY 0, 4, .inl br))] := hD1
  have hS := hS1
  clear hP1 hD1 hS1
  refine lv_pop hx hb dX8_winner_5 rfl ?_
  refine lv_aload_n hx hb dX8_winner_6 rfl (lv_at hl 0 rfl) ?_
  refine va_get (D := (dC, dI)) (ci := 8) (v := .int (g 10)) (C := RX8) (T := TX8) (N := 17) hx hb hts inw_X8_winner_X8 hown hK hP 0 rfl rfl 10 (by decide) (hts (.fieldLink RX8 32 "DuelFramesModel" "winner" "I") (List.mem_of_getElem? (i := 1) rfl)) (fun _ h9 => h9) rfl dX8_winner_7 ?_
  have eo_4 : (X8_winner_r g) = (g 10) := by rw [X8_winner_r]
  have eo_5 : (X8_winner_w0 g) = (upd g 12 0) := by rw [X8_winner_w0]
  have hP9 : va_P (dC, dI) vwCl [(m0, .inr (8, mdL AM (X8_winner_w0 g))), (AM 0, .inl (cY 0, 72, .inl tb)), (AM 2, .inl (cY 0, 22, .inl sA)), (AM 3, .inl (cY 0, 22, .inl rd)), (AM 4, .inl (cY 0, 110, .inl kp)), (AM 5, .inl (cY 0, 8414, .inl td)), (AM 6, .inl (cY 0, 2, .inl wn)), (AM 13, .inl (cY 0, 4, .inl rw)), (AM 14, .inl (cY 0, 4, .inl br))] H := by simp only [eo_5]; exact hP
  have hD9 : va_D A [(m0, .inr (8, mdL AM (X8_winner_w0 g))), (AM 0, .inl (cY 0, 72, .inl tb)), (AM 2, .inl (cY 0, 22, .inl sA)), (AM 3, .inl (cY 0, 22, .inl rd)), (AM 4, .inl (cY 0, 110, .inl kp)), (AM 5, .inl (cY 0, 8414, .inl td)), (AM 6, .inl (cY 0, 2, .inl wn)), (AM 13, .inl (cY 0, 4, .inl rw)), (AM 14, .inl (cY 0, 4, .inl br))] := by simp only [eo_5]; exact hD
  exact W.iret (v := (g 10)) hx hb hr (fun t ht hW => ⟨⟨_, (), rfl, eo_4.symm, wPost_of hP9 hD9 ht⟩, hS.F ht⟩) hS.2.2 dX8_winner_10
