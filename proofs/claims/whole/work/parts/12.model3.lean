def X8_blocking_r (tb : Nat → Int32) (frame : Int32) (move : Int32) : Int32 := (if (X8_ofMove_r tb move 0) ≤ frame then (if (X8_ofMove_r tb move 4) = 1 then 4 else 2) else 0)
set_option maxHeartbeats 4000000 in
set_option maxRecDepth 100000 in
theorem c_X8_blocking (l : Launch) (dC : Nat → ClassId) (dI : Nat → Nat → Nat) (cY : Nat → ClassId) (m0 : Nat) (AM : Nat → Nat) (g : Nat → Int32) (tb : Nat → Int32) (sA : Nat → Int32) (rd : Nat → Int32) (kp : Nat → Int32) (td : Nat → Int32) (wn : Nat → Int32) (rw : Nat → Int32) (br : Nat → Int32) (move : Int32) (frame : Int32) (hm : okM move) : Met l yX8_blocking wsX8_blocking ({ frames := 1, cells := 0, slots := 0, locals := 22 } : Room) (va_Pc [.ref m0, .int move, .int frame] (rPre (dC, dI) (tyL cY) [(m0, .inr (8, mdL AM g)), (AM 0, .inl (cY 0, 72, .inl tb)), (AM 2, .inl (cY 0, 22, .inl sA)), (AM 3, .inl (cY 0, 22, .inl rd)), (AM 4, .inl (cY 0, 110, .inl kp)), (AM 5, .inl (cY 0, 8414, .inl td)), (AM 6, .inl (cY 0, 2, .inl wn)), (AM 13, .inl (cY 0, 4, .inl rw)), (AM 14, .inl (cY 0, 4, .inl br))])) (vp_Si (fun r => r = (X8_blocking_r tb frame move))) 0 0 (fun _ => False) := by
  refine Met.ofW (cc := cX8_blocking) (maxL := 3) (ret := (some .int)) (by decide) rfl ?_
  intro p e s m args below meth c s₁ B hml hv
  obtain ⟨rfl, hP, hK, hN⟩ := hv
  have hx := B.exec
  have hb := B.bytes
  have hr := B.returns
  have hts := atoms_spec (ws := wsX8_blocking) B.pre
  have hown : s.vm.findClass RX8 = some m.cls := findClass_of_methodNamed B.named
  have hlocks := B.notSynchronized
  have hP : va_P (dC, dI) vwCl [(m0, .inr (8, mdL AM g)), (AM 0, .inl (cY 0, 72, .inl tb)), (AM 2, .inl (cY 0, 22, .inl sA)), (AM 3, .inl (cY 0, 22, .inl rd)), (AM 4, .inl (cY 0, 110, .inl kp)), (AM 5, .inl (cY 0, 8414, .inl td)), (AM 6, .inl (cY 0, 2, .inl wn)), (AM 13, .inl (cY 0, 4, .inl rw)), (AM 14, .inl (cY 0, 4, .inl br))] s.heap := hP
  have hl := lv_entry ([.ref m0, .int move, .int frame]) (n := 3) (Nat.le_of_ble_eq_true rfl)
  rw [lg_entry_eq]
  generalize (lg_sl ([.ref m0, .int move, .int frame]) ++ List.replicate (3 - (lg_sl ([.ref m0, .int move, .int frame])).length) Slot.unset).toArray = ls at hl ⊢
  have hl : lv_has ls 3 [(0, .ref m0), (1, .int move), (2, .int frame)] := hl
  refine lv_iload_n hx hb dX8_blocking_0 rfl (lv_at hl 2 rfl) ?_
  refine lv_aload_n hx hb dX8_blocking_1 rfl (lv_at hl 0 rfl) ?_
  refine lv_iload_n hx hb dX8_blocking_2 rfl (lv_at hl 1 rfl) ?_
  refine lv_iconst (v := 0) hx hb dX8_blocking_3 (by decide) ?_
  refine vp_callSi (W.runV (As := [.int move, .int 0]) (rest := [.int frame]) ⟨hx, hb, hml, hown, hts⟩ (c_X8_ofMove l dC dI cY m0 AM g tb sA rd kp td wn rw br move 0 (tb_in hm (vin rfl))) (cwV 2 hts gX8_blocking_X8_ofMove rfl rfl rfl (by decide +kernel) ⟨Nat.le_of_ble_eq_true rfl, Nat.le_of_ble_eq_true rfl⟩) ⟨blindR, va_recv hK hP (ci := 8) (q0 := 0) rfl rfl, fun U hU hW => ⟨rfl, rPre_of hP hK hN U hU hW⟩⟩ rfl rfl hl.1 rfl (lv_room (Nat.le_of_ble_eq_true rfl)) dX8_blocking_4 ⟨Nat.zero_le _, Nat.zero_le _⟩) (fun r_1 hw => ?_)
  subst hw
  refine lv_icmp_ge (tgt := 14) hx hb dX8_blocking_7 (by decide) (fun c_2 => ?_) (fun c_2 => ?_)
  · refine lv_aload_n hx hb dX8_blocking_14 rfl (lv_at hl 0 rfl) ?_
    refine lv_iload_n hx hb dX8_blocking_15 rfl (lv_at hl 1 rfl) ?_
    refine lv_iconst (v := 4) hx hb dX8_blocking_16 (by decide) ?_
    refine vp_callSi (W.runV (As := [.int move, .int 4]) (rest := []) ⟨hx, hb, hml, hown, hts⟩ (c_X8_ofMove l dC dI cY m0 AM g tb sA rd kp td wn rw br move 4 (tb_in hm (vin rfl))) (cwV 2 hts gX8_blocking_X8_ofMove rfl rfl rfl (by decide +kernel) ⟨Nat.le_of_ble_eq_true rfl, Nat.le_of_ble_eq_true rfl⟩) ⟨blindR, va_recv hK hP (ci := 8) (q0 := 0) rfl rfl, fun U hU hW => ⟨rfl, rPre_of hP hK hN U hU hW⟩⟩ rfl rfl hl.1 rfl (lv_room (Nat.le_of_ble_eq_true rfl)) dX8_blocking_17 ⟨Nat.zero_le _, Nat.zero_le _⟩) (fun r_3 hw => ?_)
    subst hw
    refine lv_iconst (v := 1) hx hb dX8_blocking_20 (by decide) ?_
    refine lv_icmp_ne (tgt := 28) hx hb dX8_blocking_21 (by decide) (fun c_4 => ?_) (fun c_4 => ?_)
    · refine lv_iconst (v := 2) hx hb dX8_blocking_28 (by decide) ?_
      have eo_5 : (X8_blocking_r tb frame move) = 2 := by rw [X8_blocking_r]; simp only [eq_true c_2, eq_false c_4, ↓reduceIte]
      exact W.iret (v := 2) hx hb hr (fun t ht _ => ⟨_, rfl, eo_5.symm, ht⟩) (fun _ h => absurd h List.not_mem_nil) dX8_blocking_29
    · refine lv_iconst (v := 4) hx hb dX8_blocking_24 (by decide) ?_
      refine lv_goto (tgt := 29) hx hb dX8_blocking_25 (by decide) ?_
      have eo_6 : (X8_blocking_r tb frame move) = 4 := by rw [X8_blocking_r]; simp only [eq_true c_2, eq_true c_4, ↓reduceIte]
      exact W.iret (v := 4) hx hb hr (fun t ht _ => ⟨_, rfl, eo_6.symm, ht⟩) (fun _ h => absurd h List.not_mem_nil) dX8_blocking_29
  · refine lv_iconst (v := 0) hx hb dX8_blocking_10 (by decide) ?_
    refine lv_goto (tgt := 29) hx hb dX8_blocking_11 (by decide) ?_
    have eo_7 : (X8_blocking_r tb frame move) = 0 := by rw [X8_blocking_r]; simp only [eq_false c_2, ↓reduceIte]
    exact W.iret (v := 0) hx hb hr (fun t ht _ => ⟨_, rfl, eo_7.symm, ht⟩) (fun _ h => absurd h List.not_mem_nil) dX8_blocking_29
def X8_advantage_j66 (j : Nat) (move : Int32) : Int32 := (if (nI j) = 0 then (10 + move) else 0)
def X8_advantage_j81 (tb : Nat → Int32) (isB : Int32) (j : Nat) (move : Int32) : Int32 := (if isB = 0 then 0 else (X8_blocking_r tb (nI j) move))
theorem inw_X8_advantage_X8 : ∀ w ∈ u_ws RX8 TX8 17, w ∈ wsX8_advantage := fun _ h => List.mem_cons_of_mem _ (List.mem_append_right _ h)
def X8_advantage_j101 (tb : Nat → Int32) (f1 : Int32) (isB : Int32) (j : Nat) (move : Int32) (sA9 : Nat → Int32) : Int32 := (if ((X8_frame_w2 tb sA9 (X8_advantage_j66 j move) (X8_advantage_j81 tb isB j move)) 3) = 0 then f1 else ((nI j) + 2))
def X8_advantage_j121 (tb : Nat → Int32) (f2 : Int32) (isB : Int32) (j : Nat) (move : Int32) (sA9 : Nat → Int32) : Int32 := (if ((X8_frame_w2 tb sA9 (X8_advantage_j66 j move) (X8_advantage_j81 tb isB j move)) 14) = 0 then f2 else ((nI j) + 2))
def X8_adv_step (tb : Nat → Int32) (isB : Int32) (move : Int32) (j : Nat) (x : (Nat → Int32) × (Nat → Int32) × Int32 × Int32) : (Nat → Int32) × (Nat → Int32) × Int32 × Int32 := ((X8_frame_w0 x.1 tb x.2.1 (X8_advantage_j66 j move) (X8_advantage_j81 tb isB j move)), (X8_frame_w2 tb x.2.1 (X8_advantage_j66 j move) (X8_advantage_j81 tb isB j move)), (X8_advantage_j101 tb x.2.2.1 isB j move x.2.1), (X8_advantage_j121 tb x.2.2.2 isB j move x.2.1))
def X8_adv_it (tb : Nat → Int32) (isB : Int32) (move : Int32) (x0 : (Nat → Int32) × (Nat → Int32) × Int32 × Int32) : Nat → (Nat → Int32) × (Nat → Int32) × Int32 × Int32
  | 0 => x0
  | n + 1 => X8_adv_step tb isB move n (X8_adv_it tb isB move x0 n)
def X8_advantage_r (g : Nat → Int32) (tb : Nat → Int32) (sA : Nat → Int32) (isB : Int32) (move : Int32) : Int32 := (if (X8_in_r ((g 1) - 1) 0 move) = 0 then 0 else ((X8_adv_it tb isB move ((upd g 12 0), (X8_lay_w2 sA 100 310 100 290), 0, 0) 200).2.2.2 - (X8_adv_it tb isB move ((upd g 12 0), (X8_lay_w2 sA 100 310 100 290), 0, 0) 200).2.2.1))
def X8_advantage_w0 (g : Nat → Int32) (tb : Nat → Int32) (sA : Nat → Int32) (isB : Int32) (move : Int32) : Nat → Int32 := (if (X8_in_r ((g 1) - 1) 0 move) = 0 then (upd g 12 1) else (X8_adv_it tb isB move ((upd g 12 0), (X8_lay_w2 sA 100 310 100 290), 0, 0) 200).1)
def X8_advantage_w2 (g : Nat → Int32) (tb : Nat → Int32) (sA : Nat → Int32) (isB : Int32) (move : Int32) : Nat → Int32 := (if (X8_in_r ((g 1) - 1) 0 move) = 0 then sA else (X8_adv_it tb isB move ((upd g 12 0), (X8_lay_w2 sA 100 310 100 290), 0, 0) 200).2.1)
set_option maxHeartbeats 4000000 in
set_option maxRecDepth 100000 in
theorem c_X8_advantage (l : Launch) (dC : Nat → ClassId) (dI : Nat → Nat → Nat) (cY : Nat → ClassId) (m0 : Nat) (AM : Nat → Nat) (g : Nat → Int32) (tb : Nat → Int32) (sA : Nat → Int32) (rd : Nat → Int32) (kp : Nat → Int32) (td : Nat → Int32) (wn : Nat → Int32) (rw : Nat → Int32) (br : Nat → Int32) (move : Int32) (isB : Int32) (hmv : vp_in (g 1) 7) (sz : Nat) : Met l yX8_advantage wsX8_advantage ({ frames := 4, cells := 0, slots := 0, locals := 108 } : Room) (va_Pc [.ref m0, .int move, .int isB] (wPre (dC, dI) (tyL cY) [(m0, .inr (8, mdL AM g)), (AM 0, .inl (cY 0, 72, .inl tb)), (AM 2, .inl (cY 0, 22, .inl sA)), (AM 3, .inl (cY 0, 22, .inl rd)), (AM 4, .inl (cY 0, 110, .inl kp)), (AM 5, .inl (cY 0, 8414, .inl td)), (AM 6, .inl (cY 0, 2, .inl wn)), (AM 13, .inl (cY 0, 4, .inl rw)), (AM 14, .inl (cY 0, 4, .inl br))] sz)) (va_Qi (fun (r : Int32) (_ : Unit) => r = (X8_advantage_r g tb sA isB move)) (wPost (dC, dI) [(m0, .inr (8, mdL AM (X8_advantage_w0 g tb sA isB move))), (AM 0, .inl (cY 0, 72, .inl tb)), (AM 2, .inl (cY 0, 22, .inl (X8_advantage_w2 g tb sA isB move))), (AM 3, .inl (cY 0, 22, .inl rd)), (AM 4, .inl (cY 0, 110, .inl kp)), (AM 5, .inl (cY 0, 8414, .inl td)), (AM 6, .inl (cY 0, 2, .inl wn)), (AM 13, .inl (cY 0, 4, .inl rw)), (AM 14, .inl (cY 0, 4, .inl br))] (va_A [(m0, .inr (8, mdL AM g)), (AM 0, .inl (cY 0, 72, .inl tb)), (AM 2, .inl (cY 0, 22, .inl sA)), (AM 3, .inl (cY 0, 22, .inl rd)), (AM 4, .inl (cY 0, 110, .inl kp)), (AM 5, .inl (cY 0, 8414, .inl td)), (AM 6, .inl (cY 0, 2, .inl wn)), (AM 13, .inl (cY 0, 4, .inl rw)), (AM 14, .inl (cY 0, 4, .inl br))] sz)) (va_A [(m0, .inr (8, mdL AM g)), (AM 0, .inl (cY 0, 72, .inl tb)), (AM 2, .inl (cY 0, 22, .inl sA)), (AM 3, .inl (cY 0, 22, .inl rd)), (AM 4, .inl (cY 0, 110, .inl kp)), (AM 5, .inl (cY 0, 8414, .inl td)), (AM 6, .inl (cY 0, 2, .inl wn)), (AM 13, .inl (cY 0, 4, .inl rw)), (AM 14, .inl (cY 0, 4, .inl br))] sz)) 0 0 (va_A [(m0, .inr (8, mdL AM g)), (AM 0, .inl (cY 0, 72, .inl tb)), (AM 2, .inl (cY 0, 22, .inl sA)), (AM 3, .inl (cY 0, 22, .inl rd)), (AM 4, .inl (cY 0, 110, .inl kp)), (AM 5, .inl (cY 0, 8414, .inl td)), (AM 6, .inl (cY 0, 2, .inl wn)), (AM 13, .inl (cY 0, 4, .inl rw)), (AM 14, .inl (cY 0, 4, .inl br))] sz) := by
  refine Met.ofW (cc := cX8_advantage) (maxL := 6) (ret := (some .int)) (by decide) rfl ?_
  intro p e s m args below meth c s₁ B hml hv
  obtain ⟨rfl, hsz, hP, hK, hN, hD0⟩ := hv
  have hx := B.exec
  have hb := B.bytes
  have hr := B.returns
  have hts := atoms_spec (ws := wsX8_advantage) B.pre
  have hown : s.vm.findClass RX8 = some m.cls := findClass_of_methodNamed B.named
  have hlocks := B.notSynchronized
  subst hsz
  have hD := hD0.self (sz := s.heap.size)
  generalize hAe : va_A [(m0, .inr (8, mdL AM g)), (AM 0, .inl (cY 0, 72, .inl tb)), (AM 2, .inl (cY 0, 22, .inl sA)), (AM 3, .inl (cY 0, 22, .inl rd)), (AM 4, .inl (cY 0, 110, .inl kp)), (AM 5, .inl (cY 0, 8414, .inl td)), (AM 6, .inl (cY 0, 2, .inl wn)), (AM 13, .inl (cY 0, 4, .inl rw)), (AM 14, .inl (cY 0, 4, .inl br))] s.heap.size = A at hD ⊢
  have hA : ∀ q : Nat, s.heap.size ≤ q → A q := fun q h => by rw [← hAe]; exact Or.inr h
  have hS : va_S A s.heap s.heap [] := va_S.rf
  have hP : va_P (dC, dI) vwCl [(m0, .inr (8, mdL AM g)), (AM 0, .inl (cY 0, 72, .inl tb)), (AM 2, .inl (cY 0, 22, .inl sA)), (AM 3, .inl (cY 0, 22, .inl rd)), (AM 4, .inl (cY 0, 110, .inl kp)), (AM 5, .inl (cY 0, 8414, .inl td)), (AM 6, .inl (cY 0, 2, .inl wn)), (AM 13, .inl (cY 0, 4, .inl rw)), (AM 14, .inl (cY 0, 4, .inl br))] s.heap := hP
  have hl := lv_entry ([.ref m0, .int move, .int isB]) (n := 6) (Nat.le_of_ble_eq_true rfl)
  rw [lg_entry_eq]
  generalize (lg_sl ([.ref m0, .int move, .int isB]) ++ List.replicate (6 - (lg_sl ([.ref m0, .int move, .int isB])).length) Slot.unset).toArray = ls at hl ⊢
  have hl : lv_has ls 6 [(0, .ref m0), (1, .int move), (2, .int isB)] := hl
  refine lv_aload_n hx hb dX8_advantage_0 rfl (lv_at hl 0 rfl) ?_
  refine lv_aload_n hx hb dX8_advantage_1 rfl (lv_at hl 0 rfl) ?_
  refine lv_iload_n hx hb dX8_advantage_2 rfl (lv_at hl 1 rfl) ?_
  refine vp_callSi (W.runV (As := [.int move]) (rest := [.ref m0]) ⟨hx, hb, hml, hown, hts⟩ (c_X8_isMove l dC dI cY m0 AM g tb sA rd kp td wn rw br move) (cwV 1 hts gX8_advantage_X8_isMove rfl rfl rfl (by decide +kernel) ⟨Nat.le_of_ble_eq_true rfl, Nat.le_of_ble_eq_true rfl⟩) ⟨blindR, va_recv hK hP (ci := 8) (q0 := 0) rfl rfl, fun U hU hW => ⟨rfl, rPre_of hP hK hN U hU hW⟩⟩ rfl rfl hl.1 rfl (lv_room (Nat.le_of_ble_eq_true rfl)) dX8_advantage_3 ⟨Nat.zero_le _, Nat.zero_le _⟩) (fun r_1 hw => ?_)
  obtain ⟨hw, hb_2⟩ := hw
  subst hw
  refine lv_if_eq (tgt := 13) hx hb dX8_advantage_6 (by decide) (fun c_3 => ?_) (fun c_3 => ?_)
  · refine lv_iconst (v := 1) hx hb dX8_advantage_13 (by decide) ?_
    have hPc := hP.sub (ws' := [(m0, .inr (8, mdL AM g)), (AM 0, .inl (cY 0, 72, .inl tb)), (AM 2, .inl (cY 0, 22, .inl sA)), (AM 3, .inl (cY 0, 22, .inl rd)), (AM 4, .inl (cY 0, 110, .inl kp)), (AM 5, .inl (cY 0, 8414, .inl td)), (AM 6, .inl (cY 0, 2, .inl wn)), (AM 13, .inl (cY 0, 4, .inl rw)), (AM 14, .inl (cY 0, 4, .inl br))]) [0, 1, 2, 3, 4, 5, 6, 7, 8] rfl
    have hDc := hD.sub (ws' := [(m0, .inr (8, mdL AM g)), (AM 0, .inl (cY 0, 72, .inl tb)), (AM 2, .inl (cY 0, 22, .inl sA)), (AM 3, .inl (cY 0, 22, .inl rd)), (AM 4, .inl (cY 0, 110, .inl kp)), (AM 5, .inl (cY 0, 8414, .inl td)), (AM 6, .inl (cY 0, 2, .inl wn)), (AM 13, .inl (cY 0, 4, .inl rw)), (AM 14, .inl (cY 0, 4, .inl br))]) [0, 1, 2, 3, 4, 5, 6, 7, 8] (by decide) rfl
    have hFc := va_free (wc := [(m0, .inr (8, mdL AM g)), (AM 0, .inl (cY 0, 72, .inl tb)), (AM 2, .inl (cY 0, 22, .inl sA)), (AM 3, .inl (cY 0, 22, .inl rd)), (AM 4, .inl (cY 0, 110, .inl kp)), (AM 5, .inl (cY 0, 8414, .inl td)), (AM 6, .inl (cY 0, 2, .inl wn)), (AM 13, .inl (cY 0, 4, .inl rw)), (AM 14, .inl (cY 0, 4, .inl br))]) hD hS hA [0, 1, 2, 3, 4, 5, 6, 7, 8] rfl
    refine va_calli (va_runV (As := [.int 1]) (rest := []) ⟨hx, hb, hml, hown, hts⟩ (c_X8_isFine l dC dI cY m0 AM g tb sA rd kp td wn rw br 1 s.heap.size) (cwV 1 hts gX8_advantage_X8_isFine rfl rfl rfl (by decide +kernel) ⟨Nat.le_of_ble_eq_true rfl, Nat.le_of_ble_eq_true rfl⟩) ⟨blindW, va_recv hK hPc (ci := 8) (q0 := 0) rfl rfl, fun U hU hW => ⟨rfl, wPre_of hPc hK hN hDc U hU hW⟩⟩ rfl rfl hl.1 rfl (lv_room (Nat.le_of_ble_eq_true rfl)) dX8_advantage_14 ⟨Nat.zero_le _, Nat.zero_le _⟩) hS (fun q _ h => hFc q h) hFc (fun r_4 u t H1 locs ht hvm hw hB hz1 hk1 hS1 => ?_)
    obtain ⟨hw, hb_5⟩ := hw
    subst hw
    refine lv_topi (fun x_6 ex_6 => ?_)
    obtain rfl : x_6 = 0 := ex_6.trans (by decide)
    have hJ := wJoin (wr := []) (w1 := [(m0, .inr (8, mdL AM (upd g 12 1))), (AM 0, .inl (cY 0, 72, .inl tb)), (AM 2, .inl (cY 0, 22, .inl sA)), (AM 3, .inl (cY 0, 22, .inl rd)), (AM 4, .inl (cY 0, 110, .inl kp)), (AM 5, .inl (cY 0, 8414, .inl td)), (AM 6, .inl (cY 0, 2, .inl wn)), (AM 13, .inl (cY 0, 4, .inl rw)), (AM 14, .inl (cY 0, 4, .inl br))]) (wn := [(m0, .inr (8, mdL AM (upd g 12 1))), (AM 0, .inl (cY 0, 72, .inl tb)), (AM 2, .inl (cY 0, 22, .inl sA)), (AM 3, .inl (cY 0, 22, .inl rd)), (AM 4, .inl (cY 0, 110, .inl kp)), (AM 5, .inl (cY 0, 8414, .inl td)), (AM 6, .inl (cY 0, 2, .inl wn)), (AM 13, .inl (cY 0, 4, .inl rw)), (AM 14, .inl (cY 0, 4, .inl br))]) hP hD [0, 1, 2, 3, 4, 5, 6, 7, 8] [] rfl rfl (by decide) (by decide) hk1 hFc hB ht [0, 1, 2, 3, 4, 5, 6, 7, 8] rfl (by decide)
    clear hB hk1 hFc hPc hDc hP hD hS hz1 hvm ht t
    obtain ⟨hP1, hD1⟩ := hJ
    generalize H1 = H at hP1 hS1 ⊢
    have hP : va_P (dC, dI) vwCl [(m0, .inr (8, mdL AM (upd g 12 1))), (AM 0, .inl (cY 0, 72, .inl tb)), (AM 2, .inl (cY 0, 22, .inl sA)), (AM 3, .inl (cY 0, 22, .inl rd)), (AM 4, .inl (cY 0, 110, .inl kp)), (AM 5, .inl (cY 0, 8414, .inl td)), (AM 6, .inl (cY 0, 2, .inl wn)), (AM 13, .inl (cY 0, 4, .inl rw)), (AM 14, .inl (cY 0, 4, .inl br))] H := hP1
    have hD : va_D A [(m0, .inr (8, mdL AM (upd g 12 1))), (AM 0, .inl (cY 0, 72, .inl tb)), (AM 2, .inl (cY 0, 22, .inl sA)), (AM 3, .inl (cY 0, 22, .inl rd)), (AM 4, .inl (cY 0, 110, .inl kp)), (AM 5, .inl (cY 0, 8414, .inl td)), (AM 6, .inl (cY 0, 2, .inl wn)), (AM 13, .inl (cY 0, 4, .inl rw)), (AM 14, .inl (cY 0, 4, .inl br))] := hD1
    have hS := hS1
    clear hP1 hD1 hS1
    refine lv_if_ne (tgt := 22) hx hb dX8_advantage_17 (by decide) (fun c_7 => ?_) (fun c_7 => ?_)
    · exact absurd (by decide) c_7
    refine lv_iconst (v := 0) hx hb dX8_advantage_20 (by decide) ?_
    have eo_8 : (X8_advantage_r g tb sA isB move) = 0 := by rw [X8_advantage_r]; simp only [eq_true c_3, ↓reduceIte]
    have eo_9 : (X8_advantage_w0 g tb sA isB move) = (upd g 12 1) := by rw [X8_advantage_w0]; simp only [eq_true c_3, ↓reduceIte]
    have eo_10 : (X8_advantage_w2 g tb sA isB move) = sA := by rw [X8_advantage_w2]; simp only [eq_true c_3, ↓reduceIte]
    have hP9 : va_P (dC, dI) vwCl [(m0, .inr (8, mdL AM (X8_advantage_w0 g tb sA isB move))), (AM 0, .inl (cY 0, 72, .inl tb)), (AM 2, .inl (cY 0, 22, .inl (X8_advantage_w2 g tb sA isB move))), (AM 3, .inl (cY 0, 22, .inl rd)), (AM 4, .inl (cY 0, 110, .inl kp)), (AM 5, .inl (cY 0, 8414, .inl td)), (AM 6, .inl (cY 0, 2, .inl wn)), (AM 13, .inl (cY 0, 4, .inl rw)), (AM 14, .inl (cY 0, 4, .inl br))] H := by simp only [eo_9, eo_10]; exact hP
    have hD9 : va_D A [(m0, .inr (8, mdL AM (X8_advantage_w0 g tb sA isB move))), (AM 0, .inl (cY 0, 72, .inl tb)), (AM 2, .inl (cY 0, 22, .inl (X8_advantage_w2 g tb sA isB move))), (AM 3, .inl (cY 0, 22, .inl rd)), (AM 4, .inl (cY 0, 110, .inl kp)), (AM 5, .inl (cY 0, 8414, .inl td)), (AM 6, .inl (cY 0, 2, .inl wn)), (AM 13, .inl (cY 0, 4, .inl rw)), (AM 14, .inl (cY 0, 4, .inl br))] := by simp only [eo_9, eo_10]; exact hD
    exact W.iret (v := 0) hx hb hr (fun t ht hW => ⟨⟨_, (), rfl, eo_8.symm, wPost_of hP9 hD9 ht⟩, hS.F ht⟩) hS.2.2 dX8_advantage_21
  · refine lv_iconst (v := 0) hx hb dX8_advantage_9 (by decide) ?_
    refine lv_goto (tgt := 14) hx hb dX8_advantage_10 (by decide) ?_
    have hPc := hP.sub (ws' := [(m0, .inr (8, mdL AM g)), (AM 0, .inl (cY 0, 72, .inl tb)), (AM 2, .inl (cY 0, 22, .inl sA)), (AM 3, .inl (cY 0, 22, .inl rd)), (AM 4, .inl (cY 0, 110, .inl kp)), (AM 5, .inl (cY 0, 8414, .inl td)), (AM 6, .inl (cY 0, 2, .inl wn)), (AM 13, .inl (cY 0, 4, .inl rw)), (AM 14, .inl (cY 0, 4, .inl br))]) [0, 1, 2, 3, 4, 5, 6, 7, 8] rfl
    have hDc := hD.sub (ws' := [(m0, .inr (8, mdL AM g)), (AM 0, .inl (cY 0, 72, .inl tb)), (AM 2, .inl (cY 0, 22, .inl sA)), (AM 3, .inl (cY 0, 22, .inl rd)), (AM 4, .inl (cY 0, 110, .inl kp)), (AM 5, .inl (cY 0, 8414, .inl td)), (AM 6, .inl (cY 0, 2, .inl wn)), (AM 13, .inl (cY 0, 4, .inl rw)), (AM 14, .inl (cY 0, 4, .inl br))]) [0, 1, 2, 3, 4, 5, 6, 7, 8] (by decide) rfl
    have hFc := va_free (wc := [(m0, .inr (8, mdL AM g)), (AM 0, .inl (cY 0, 72, .inl tb)), (AM 2, .inl (cY 0, 22, .inl sA)), (AM 3, .inl (cY 0, 22, .inl rd)), (AM 4, .inl (cY 0, 110, .inl kp)), (AM 5, .inl (cY 0, 8414, .inl td)), (AM 6, .inl (cY 0, 2, .inl wn)), (AM 13, .inl (cY 0, 4, .inl rw)), (AM 14, .inl (cY 0, 4, .inl br))]) hD hS hA [0, 1, 2, 3, 4, 5, 6, 7, 8] rfl
    refine va_calli (va_runV (As := [.int 0]) (rest := []) ⟨hx, hb, hml, hown, hts⟩ (c_X8_isFine l dC dI cY m0 AM g tb sA rd kp td wn rw br 0 s.heap.size) (cwV 1 hts gX8_advantage_X8_isFine rfl rfl rfl (by decide +kernel) ⟨Nat.le_of_ble_eq_true rfl, Nat.le_of_ble_eq_true rfl⟩) ⟨blindW, va_recv hK hPc (ci := 8) (q0 := 0) rfl rfl, fun U hU hW => ⟨rfl, wPre_of hPc hK hN hDc U hU hW⟩⟩ rfl rfl hl.1 rfl (lv_room (Nat.le_of_ble_eq_true rfl)) dX8_advantage_14 ⟨Nat.zero_le _, Nat.zero_le _⟩) hS (fun q _ h => hFc q h) hFc (fun r_11 u t H1 locs ht hvm hw hB hz1 hk1 hS1 => ?_)
    obtain ⟨hw, hb_12⟩ := hw
    subst hw
    refine lv_topi (fun x_13 ex_13 => ?_)
    obtain rfl : x_13 = 1 := ex_13.trans (by decide)
    have hJ := wJoin (wr := []) (w1 := [(m0, .inr (8, mdL AM (upd g 12 0))), (AM 0, .inl (cY 0, 72, .inl tb)), (AM 2, .inl (cY 0, 22, .inl sA)), (AM 3, .inl (cY 0, 22, .inl rd)), (AM 4, .inl (cY 0, 110, .inl kp)), (AM 5, .inl (cY 0, 8414, .inl td)), (AM 6, .inl (cY 0, 2, .inl wn)), (AM 13, .inl (cY 0, 4, .inl rw)), (AM 14, .inl (cY 0, 4, .inl br))]) (wn := [(m0, .inr (8, mdL AM (upd g 12 0))), (AM 0, .inl (cY 0, 72, .inl tb)), (AM 2, .inl (cY 0, 22, .inl sA)), (AM 3, .inl (cY 0, 22, .inl rd)), (AM 4, .inl (cY 0, 110, .inl kp)), (AM 5, .inl (cY 0, 8414, .inl td)), (AM 6, .inl (cY 0, 2, .inl wn)), (AM 13, .inl (cY 0, 4, .inl rw)), (AM 14, .inl (cY 0, 4, .inl br))]) hP hD [0, 1, 2, 3, 4, 5, 6, 7, 8] [] rfl rfl (by decide) (by decide) hk1 hFc hB ht [0, 1, 2, 3, 4, 5, 6, 7, 8] rfl (by decide)
    clear hB hk1 hFc hPc hDc hP hD hS hz1 hvm ht t
    obtain ⟨hP1, hD1⟩ := hJ
    generalize H1 = H at hP1 hS1 ⊢
    have hP : va_P (dC, dI) vwCl [(m0, .inr (8, mdL AM (upd g 12 0))), (AM 0, .inl (cY 0, 72, .inl tb)), (AM 2, .inl (cY 0, 22, .inl sA)), (AM 3, .inl (cY 0, 22, .inl rd)), (AM 4, .inl (cY 0, 110, .inl kp)), (AM 5, .inl (cY 0, 8414, .inl td)), (AM 6, .inl (cY 0, 2, .inl wn)), (AM 13, .inl (cY 0, 4, .inl rw)), (AM 14, .inl (cY 0, 4, .inl br))] H := hP1
    have hD : va_D A [(m0, .inr (8, mdL AM (upd g 12 0))), (AM 0, .inl (cY 0, 72, .inl tb)), (AM 2, .inl (cY 0, 22, .inl sA)), (AM 3, .inl (cY 0, 22, .inl rd)), (AM 4, .inl (cY 0, 110, .inl kp)), (AM 5, .inl (cY 0, 8414, .inl td)), (AM 6, .inl (cY 0, 2, .inl wn)), (AM 13, .inl (cY 0, 4, .inl rw)), (AM 14, .inl (cY 0, 4, .inl br))] := hD1
    have hS := hS1
    clear hP1 hD1 hS1
    refine lv_if_ne (tgt := 22) hx hb dX8_advantage_17 (by decide) (fun c_14 => ?_) (fun c_14 => ?_)
    rotate_left
    · exact absurd c_14 (by decide)
    refine lv_aload_n hx hb dX8_advantage_22 rfl (lv_at hl 0 rfl) ?_
    refine lv_sipush (v := 290) hx hb dX8_advantage_23 (by decide) ?_
    refine lv_sipush (v := 310) hx hb dX8_advantage_26 (by decide) ?_
    refine lv_bipush (v := 100) hx hb dX8_advantage_29 (by decide) ?_
    refine lv_bipush (v := 100) hx hb dX8_advantage_31 (by decide) ?_
    have hPc := hP.sub (ws' := [(m0, .inr (8, mdL AM (upd g 12 0))), (AM 0, .inl (cY 0, 72, .inl tb)), (AM 2, .inl (cY 0, 22, .inl sA)), (AM 3, .inl (cY 0, 22, .inl rd)), (AM 4, .inl (cY 0, 110, .inl kp)), (AM 5, .inl (cY 0, 8414, .inl td)), (AM 6, .inl (cY 0, 2, .inl wn)), (AM 13, .inl (cY 0, 4, .inl rw)), (AM 14, .inl (cY 0, 4, .inl br))]) [0, 1, 2, 3, 4, 5, 6, 7, 8] rfl
    have hDc := hD.sub (ws' := [(m0, .inr (8, mdL AM (upd g 12 0))), (AM 0, .inl (cY 0, 72, .inl tb)), (AM 2, .inl (cY 0, 22, .inl sA)), (AM 3, .inl (cY 0, 22, .inl rd)), (AM 4, .inl (cY 0, 110, .inl kp)), (AM 5, .inl (cY 0, 8414, .inl td)), (AM 6, .inl (cY 0, 2, .inl wn)), (AM 13, .inl (cY 0, 4, .inl rw)), (AM 14, .inl (cY 0, 4, .inl br))]) [0, 1, 2, 3, 4, 5, 6, 7, 8] (by decide) rfl
    have hFc := va_free (wc := [(m0, .inr (8, mdL AM (upd g 12 0))), (AM 0, .inl (cY 0, 72, .inl tb)), (AM 2, .inl (cY 0, 22, .inl sA)), (AM 3, .inl (cY 0, 22, .inl rd)), (AM 4, .inl (cY 0, 110, .inl kp)), (AM 5, .inl (cY 0, 8414, .inl td)), (AM 6, .inl (cY 0, 2, .inl wn)), (AM 13, .inl (cY 0, 4, .inl rw)), (AM 14, .inl (cY 0, 4, .inl br))]) hD hS hA [0, 1, 2, 3, 4, 5, 6, 7, 8] rfl
    refine va_callv (va_runV (As := [.int 290, .int 310, .int 100, .int 100]) (rest := []) ⟨hx, hb, hml, hown, hts⟩ (c_X8_lay l dC dI cY m0 AM (upd g 12 0) tb sA rd kp td wn rw br 290 310 100 100 H.size) (cwV 4 hts gX8_advantage_X8_lay rfl rfl rfl (by decide +kernel) ⟨Nat.le_of_ble_eq_true rfl, Nat.le_of_ble_eq_true rfl⟩) ⟨blindW, va_recv hK hPc (ci := 8) (q0 := 0) rfl rfl, fun U hU hW => ⟨rfl, wPre_of hPc hK hN hDc U hU hW⟩⟩ rfl rfl hl.1 rfl (lv_room (Nat.le_of_ble_eq_true rfl)) dX8_advantage_33 ⟨Nat.zero_le _, Nat.zero_le _⟩) hS (fun q _ h => hFc q h) hFc (fun u t H1 locs ht hvm hw hB hz1 hk1 hS1 => ?_)
    have hJ := wJoin (wr := []) (w1 := [(m0, .inr (8, mdL AM (upd g 12 0))), (AM 0, .inl (cY 0, 72, .inl tb)), (AM 2, .inl (cY 0, 22, .inl (X8_lay_w2 sA 100 310 100 290))), (AM 3, .inl (cY 0, 22, .inl rd)), (AM 4, .inl (cY 0, 110, .inl kp)), (AM 5, .inl (cY 0, 8414, .inl td)), (AM 6, .inl (cY 0, 2, .inl wn)), (AM 13, .inl (cY 0, 4, .inl rw)), (AM 14, .inl (cY 0, 4, .inl br))]) (wn := [(m0, .inr (8, mdL AM (upd g 12 0))), (AM 0, .inl (cY 0, 72, .inl tb)), (AM 2, .inl (cY 0, 22, .inl (X8_lay_w2 sA 100 310 100 290))), (AM 3, .inl (cY 0, 22, .inl rd)), (AM 4, .inl (cY 0, 110, .inl kp)), (AM 5, .inl (cY 0, 8414, .inl td)), (AM 6, .inl (cY 0, 2, .inl wn)), (AM 13, .inl (cY 0, 4, .inl rw)), (AM 14, .inl (cY 0, 4, .inl br))]) hP hD [0, 1, 2, 3, 4, 5, 6, 7, 8] [] rfl rfl (by decide) (by decide) hk1 hFc hB ht [0, 1, 2, 3, 4, 5, 6, 7, 8] rfl (by decide)
    clear hB hk1 hFc hPc hDc hP hD hS hz1 hvm ht t
    obtain ⟨hP1, hD1⟩ := hJ
    generalize H1 = H at hP1 hS1 ⊢
    have hP : va_P (dC, dI) vwCl [(m0, .inr (8, mdL AM (upd g 12 0))), (AM 0, .inl (cY 0, 72, .inl tb)), (AM 2, .inl (cY 0, 22, .inl (X8_lay_w2 sA 100 310 100 290))), (AM 3, .inl (cY 0, 22, .inl rd)), (AM 4, .inl (cY 0, 110, .inl kp)), (AM 5, .inl (cY 0, 8414, .inl td)), (AM 6, .inl (cY 0, 2, .inl wn)), (AM 13, .inl (cY 0, 4, .inl rw)), (AM 14, .inl (cY 0, 4, .inl br))] H := hP1
    have hD : va_D A [(m0, .inr (8, mdL AM (upd g 12 0))), (AM 0, .inl (cY 0, 72, .inl tb)), (AM 2, .inl (cY 0, 22, .inl (X8_lay_w2 sA 100 310 100 290))), (AM 3, .inl (cY 0, 22, .inl rd)), (AM 4, .inl (cY 0, 110, .inl kp)), (AM 5, .inl (cY 0, 8414, .inl td)), (AM 6, .inl (cY 0, 2, .inl wn)), (AM 13, .inl (cY 0, 4, .inl rw)), (AM 14, .inl (cY 0, 4, .inl br))] := hD1
    have hS := hS1
    clear hP1 hD1 hS1
    obtain ⟨z_16, ez_16⟩ : ∃ z, z = (X8_lay_w2 sA 100 310 100 290) := ⟨_, rfl⟩
    rw [← ez_16] at hP hD
    have hsz_16 : okS z_16 := by rw [ez_16]; exact okS_lay
    refine lv_iconst (v := 0) hx hb dX8_advantage_36 (by decide) ?_
    refine lv_istore_n (lv' := [(3, .int 0), (0, .ref m0), (1, .int move), (2, .int isB)]) hx hb dX8_advantage_37 rfl hl (by decide) rfl (fun ls hl => ?_)
    refine lv_iconst (v := 0) hx hb dX8_advantage_38 (by decide) ?_
    refine lv_istore (lv' := [(4, .int 0), (3, .int 0), (0, .ref m0), (1, .int move), (2, .int isB)]) hx hb dX8_advantage_39 hl (by decide) rfl (fun ls hl => ?_)
    refine lv_iconst (v := 0) hx hb dX8_advantage_41 (by decide) ?_
    refine lv_istore (lv' := [(5, .int 0), (4, .int 0), (3, .int 0), (0, .ref m0), (1, .int move), (2, .int isB)]) hx hb dX8_advantage_42 hl (by decide) rfl (fun ls hl => ?_)
    refine loopI (D := (dC, dI)) (σ := (Nat → Int32) × (Nat → Int32) × Int32 × Int32) 200 (fun j x => [(m0, .inr (8, mdL AM x.1)), (AM 0, .inl (cY 0, 72, .inl tb)), (AM 2, .inl (cY 0, 22, .inl x.2.1)), (AM 3, .inl (cY 0, 22, .inl rd)), (AM 4, .inl (cY 0, 110, .inl kp)), (AM 5, .inl (cY 0, 8414, .inl td)), (AM 6, .inl (cY 0, 2, .inl wn)), (AM 13, .inl (cY 0, 4, .inl rw)), (AM 14, .inl (cY 0, 4, .inl br))]) (fun j x => [(0, .ref m0), (1, .int move), (2, .int isB), (3, .int x.2.2.1), (4, .int x.2.2.2), (5, .int (nI j))]) 44 6 (A := A) (H0 := s.heap) (fun j x => x = (X8_adv_it tb isB move ((upd g 12 0), z_16, 0, 0) j) ∧ okS x.2.1) ?_ ?_ ((upd g 12 0), z_16, 0, 0) ⟨rfl, hsz_16⟩ hP hD hS (lv_sub hl [3, 4, 5, 2, 1, 0] rfl)
    · rintro j ⟨g9, sA9, f1, f2⟩ hj hi H locs ls hP hD hS hl hk
      have hP : va_P (dC, dI) vwCl [(m0, .inr (8, mdL AM g9)), (AM 0, .inl (cY 0, 72, .inl tb)), (AM 2, .inl (cY 0, 22, .inl sA9)), (AM 3, .inl (cY 0, 22, .inl rd)), (AM 4, .inl (cY 0, 110, .inl kp)), (AM 5, .inl (cY 0, 8414, .inl td)), (AM 6, .inl (cY 0, 2, .inl wn)), (AM 13, .inl (cY 0, 4, .inl rw)), (AM 14, .inl (cY 0, 4, .inl br))] H := hP
      have hD : va_D A [(m0, .inr (8, mdL AM g9)), (AM 0, .inl (cY 0, 72, .inl tb)), (AM 2, .inl (cY 0, 22, .inl sA9)), (AM 3, .inl (cY 0, 22, .inl rd)), (AM 4, .inl (cY 0, 110, .inl kp)), (AM 5, .inl (cY 0, 8414, .inl td)), (AM 6, .inl (cY 0, 2, .inl wn)), (AM 13, .inl (cY 0, 4, .inl rw)), (AM 14, .inl (cY 0, 4, .inl br))] := hD
      have hl : lv_has ls 6 [(0, .ref m0), (1, .int move), (2, .int isB), (3, .int f1), (4, .int f2), (5, .int (nI j))] := hl
      (try dsimp only at hi)
      have hs9 := hi.2
      refine lv_iload hx hb dX8_advantage_44 (lv_at hl 5 rfl) ?_
      refine lv_sipush (v := 200) hx hb dX8_advantage_46 (by decide) ?_
      refine lv_icmp_ge (tgt := 129) hx hb dX8_advantage_49 (by decide) (fun c_17 => ?_) (fun c_17 => ?_)
      · exact absurd c_17 (nI_ge (b := 200) hj (by decide))
      refine lv_aload_n hx hb dX8_advantage_52 rfl (lv_at hl 0 rfl) ?_
      refine lv_iload hx hb dX8_advantage_53 (lv_at hl 5 rfl) ?_
      refine jnW (D := (dC, dI)) (ws := [(m0, .inr (8, mdL AM g9)), (AM 0, .inl (cY 0, 72, .inl tb)), (AM 2, .inl (cY 0, 22, .inl sA9)), (AM 3, .inl (cY 0, 22, .inl rd)), (AM 4, .inl (cY 0, 110, .inl kp)), (AM 5, .inl (cY 0, 8414, .inl td)), (AM 6, .inl (cY 0, 2, .inl wn)), (AM 13, .inl (cY 0, 4, .inl rw)), (AM 14, .inl (cY 0, 4, .inl br))]) (lv := [(0, .ref m0), (1, .int move), (2, .int isB), (3, .int f1), (4, .int f2), (5, .int (nI j))]) (st := [.int (X8_advantage_j66 j move), .ref m0]) (J := 66) (n := 6) (A := A) (H0 := s.heap) ?_ ?_
      · intro H locs ls hP hD hS hl
        refine lv_iload_n hx hb dX8_advantage_66 rfl (lv_at hl 2 rfl) ?_
        refine jnW (D := (dC, dI)) (ws := [(m0, .inr (8, mdL AM g9)), (AM 0, .inl (cY 0, 72, .inl tb)), (AM 2, .inl (cY 0, 22, .inl sA9)), (AM 3, .inl (cY 0, 22, .inl rd)), (AM 4, .inl (cY 0, 110, .inl kp)), (AM 5, .inl (cY 0, 8414, .inl td)), (AM 6, .inl (cY 0, 2, .inl wn)), (AM 13, .inl (cY 0, 4, .inl rw)), (AM 14, .inl (cY 0, 4, .inl br))]) (lv := [(0, .ref m0), (1, .int move), (2, .int isB), (3, .int f1), (4, .int f2), (5, .int (nI j))]) (st := [.int (X8_advantage_j81 tb isB j move), .int (X8_advantage_j66 j move), .ref m0]) (J := 81) (n := 6) (A := A) (H0 := s.heap) ?_ ?_
        · intro H locs ls hP hD hS hl
          have hPc := hP.sub (ws' := [(m0, .inr (8, mdL AM g9)), (AM 0, .inl (cY 0, 72, .inl tb)), (AM 2, .inl (cY 0, 22, .inl sA9)), (AM 3, .inl (cY 0, 22, .inl rd)), (AM 4, .inl (cY 0, 110, .inl kp)), (AM 5, .inl (cY 0, 8414, .inl td)), (AM 6, .inl (cY 0, 2, .inl wn)), (AM 13, .inl (cY 0, 4, .inl rw)), (AM 14, .inl (cY 0, 4, .inl br))]) [0, 1, 2, 3, 4, 5, 6, 7, 8] rfl
          have hDc := hD.sub (ws' := [(m0, .inr (8, mdL AM g9)), (AM 0, .inl (cY 0, 72, .inl tb)), (AM 2, .inl (cY 0, 22, .inl sA9)), (AM 3, .inl (cY 0, 22, .inl rd)), (AM 4, .inl (cY 0, 110, .inl kp)), (AM 5, .inl (cY 0, 8414, .inl td)), (AM 6, .inl (cY 0, 2, .inl wn)), (AM 13, .inl (cY 0, 4, .inl rw)), (AM 14, .inl (cY 0, 4, .inl br))]) [0, 1, 2, 3, 4, 5, 6, 7, 8] (by decide) rfl
          have hFc := va_free (wc := [(m0, .inr (8, mdL AM g9)), (AM 0, .inl (cY 0, 72, .inl tb)), (AM 2, .inl (cY 0, 22, .inl sA9)), (AM 3, .inl (cY 0, 22, .inl rd)), (AM 4, .inl (cY 0, 110, .inl kp)), (AM 5, .inl (cY 0, 8414, .inl td)), (AM 6, .inl (cY 0, 2, .inl wn)), (AM 13, .inl (cY 0, 4, .inl rw)), (AM 14, .inl (cY 0, 4, .inl br))]) hD hS hA [0, 1, 2, 3, 4, 5, 6, 7, 8] rfl
          refine va_callv (va_runV (As := [.int (X8_advantage_j66 j move), .int (X8_advantage_j81 tb isB j move)]) (rest := []) ⟨hx, hb, hml, hown, hts⟩ (c_X8_frame l dC dI cY m0 AM g9 tb sA9 rd kp td wn rw br (X8_advantage_j66 j move) (X8_advantage_j81 tb isB j move) hs9 (by (try simp only [ez_16]); exact (show okI (X8_advantage_j66 j move) from by unfold X8_advantage_j66; exact (okI_if (okI_mv (isMove_ok hmv c_3)) (Or.inl (by decide))))) (by (try simp only [ez_16]); exact (show okI (X8_advantage_j81 tb isB j move) from by unfold X8_advantage_j81; exact (okI_if (Or.inl (by decide)) (show okI (X8_blocking_r tb (nI j) move) from by unfold X8_blocking_r; exact (okI_if (okI_if (Or.inl (by decide)) (Or.inl (by decide))) (Or.inl (by decide))))))) H.size) (cwV 2 hts gX8_advantage_X8_frame rfl rfl rfl (by decide +kernel) ⟨Nat.le_of_ble_eq_true rfl, Nat.le_of_ble_eq_true rfl⟩) ⟨blindW, va_recv hK hPc (ci := 8) (q0 := 0) rfl rfl, fun U hU hW => ⟨rfl, wPre_of hPc hK hN hDc U hU hW⟩⟩ rfl rfl hl.1 rfl (lv_room (Nat.le_of_ble_eq_true rfl)) dX8_advantage_81 ⟨Nat.zero_le _, Nat.zero_le _⟩) hS (fun q _ h => hFc q h) hFc (fun u t H1 locs ht hvm hw hB hz1 hk1 hS1 => ?_)
          have hJ := wJoin (wr := []) (w1 := [(m0, .inr (8, mdL AM (X8_frame_w0 g9 tb sA9 (X8_advantage_j66 j move) (X8_advantage_j81 tb isB j move)))), (AM 0, .inl (cY 0, 72, .inl tb)), (AM 2, .inl (cY 0, 22, .inl (X8_frame_w2 tb sA9 (X8_advantage_j66 j move) (X8_advantage_j81 tb isB j move)))), (AM 3, .inl (cY 0, 22, .inl rd)), (AM 4, .inl (cY 0, 110, .inl kp)), (AM 5, .inl (cY 0, 8414, .inl td)), (AM 6, .inl (cY 0, 2, .inl wn)), (AM 13, .inl (cY 0, 4, .inl rw)), (AM 14, .inl (cY 0, 4, .inl br))]) (wn := [(m0, .inr (8, mdL AM (X8_frame_w0 g9 tb sA9 (X8_advantage_j66 j move) (X8_advantage_j81 tb isB j move)))), (AM 0, .inl (cY 0, 72, .inl tb)), (AM 2, .inl (cY 0, 22, .inl (X8_frame_w2 tb sA9 (X8_advantage_j66 j move) (X8_advantage_j81 tb isB j move)))), (AM 3, .inl (cY 0, 22, .inl rd)), (AM 4, .inl (cY 0, 110, .inl kp)), (AM 5, .inl (cY 0, 8414, .inl td)), (AM 6, .inl (cY 0, 2, .inl wn)), (AM 13, .inl (cY 0, 4, .inl rw)), (AM 14, .inl (cY 0, 4, .inl br))]) hP hD [0, 1, 2, 3, 4, 5, 6, 7, 8] [] rfl rfl (by decide) (by decide) hk1 hFc hB ht [0, 1, 2, 3, 4, 5, 6, 7, 8] rfl (by decide)
          clear hB hk1 hFc hPc hDc hP hD hS hz1 hvm ht t
          obtain ⟨hP1, hD1⟩ := hJ
          generalize H1 = H at hP1 hS1 ⊢
          have hP : va_P (dC, dI) vwCl [(m0, .inr (8, mdL AM (X8_frame_w0 g9 tb sA9 (X8_advantage_j66 j move) (X8_advantage_j81 tb isB j move)))), (AM 0, .inl (cY 0, 72, .inl tb)), (AM 2, .inl (cY 0, 22, .inl (X8_frame_w2 tb sA9 (X8_advantage_j66 j move) (X8_advantage_j81 tb isB j move)))), (AM 3, .inl (cY 0, 22, .inl rd)), (AM 4, .inl (cY 0, 110, .inl kp)), (AM 5, .inl (cY 0, 8414, .inl td)), (AM 6, .inl (cY 0, 2, .inl wn)), (AM 13, .inl (cY 0, 4, .inl rw)), (AM 14, .inl (cY 0, 4, .inl br))] H := hP1
          have hD : va_D A [(m0, .inr (8, mdL AM (X8_frame_w0 g9 tb sA9 (X8_advantage_j66 j move) (X8_advantage_j81 tb isB j move)))), (AM 0, .inl (cY 0, 72, .inl tb)), (AM 2, .inl (cY 0, 22, .inl (X8_frame_w2 tb sA9 (X8_advantage_j66 j move) (X8_advantage_j81 tb isB j move)))), (AM 3, .inl (cY 0, 22, .inl rd)), (AM 4, .inl (cY 0, 110, .inl kp)), (AM 5, .inl (cY 0, 8414, .inl td)), (AM 6, .inl (cY 0, 2, .inl wn)), (AM 13, .inl (cY 0, 4, .inl rw)), (AM 14, .inl (cY 0, 4, .inl br))] := hD1
          have hS := hS1
          clear hP1 hD1 hS1
          obtain ⟨z_23, ez_23⟩ : ∃ z, z = (X8_frame_w0 g9 tb sA9 (X8_advantage_j66 j move) (X8_advantage_j81 tb isB j move)) := ⟨_, rfl⟩
          rw [← ez_23] at hP hD
          obtain ⟨z_24, ez_24⟩ : ∃ z, z = (X8_frame_w2 tb sA9 (X8_advantage_j66 j move) (X8_advantage_j81 tb isB j move)) := ⟨_, rfl⟩
          rw [← ez_24] at hP hD
          have hsz_24 : okS z_24 := by rw [ez_24]; exact okS_fr hs9 (show okI (X8_advantage_j66 j move) from by unfold X8_advantage_j66; exact (okI_if (okI_mv (isMove_ok hmv c_3)) (Or.inl (by decide)))) (show okI (X8_advantage_j81 tb isB j move) from by unfold X8_advantage_j81; exact (okI_if (Or.inl (by decide)) (show okI (X8_blocking_r tb (nI j) move) from by unfold X8_blocking_r; exact (okI_if (okI_if (Or.inl (by decide)) (Or.inl (by decide))) (Or.inl (by decide))))))
          refine lv_aload_n hx hb dX8_advantage_84 rfl (lv_at hl 0 rfl) ?_
          refine va_get (D := (dC, dI)) (ci := 8) (v := .ref (AM 2)) (C := RX8) (T := TX8) (N := 17) hx hb hts inw_X8_advantage_X8 hown hK hP 0 rfl rfl 2 (by decide) (hts (.fieldLink RX8 13 "DuelFramesModel" "s" "[I") (List.mem_of_getElem? (i := 1) rfl)) (fun _ h9 => h9) rfl dX8_advantage_85 ?_
          refine lv_iconst (v := 3) hx hb dX8_advantage_88 (by decide) ?_
          refine va_iald hx hb hK hP 2 0 rfl rfl (vin rfl) dX8_advantage_89 ?_
          refine lv_topi (fun x_25 ex_25 => ?_)
          obtain rfl : x_25 = (z_24 3) := ex_25
          refine jnW (D := (dC, dI)) (ws := [(m0, .inr (8, mdL AM z_23)), (AM 0, .inl (cY 0, 72, .inl tb)), (AM 2, .inl (cY 0, 22, .inl z_24)), (AM 3, .inl (cY 0, 22, .inl rd)), (AM 4, .inl (cY 0, 110, .inl kp)), (AM 5, .inl (cY 0, 8414, .inl td)), (AM 6, .inl (cY 0, 2, .inl wn)), (AM 13, .inl (cY 0, 4, .inl rw)), (AM 14, .inl (cY 0, 4, .inl br))]) (lv := [(0, .ref m0), (1, .int move), (2, .int isB), (4, .int f2), (5, .int (nI j))]) (st := [.int (X8_advantage_j101 tb f1 isB j move sA9)]) (J := 101) (n := 6) (A := A) (H0 := s.heap) ?_ ?_
          · intro H locs ls hP hD hS hl
            refine lv_istore_n (lv' := [(3, .int (X8_advantage_j101 tb f1 isB j move sA9)), (0, .ref m0), (1, .int move), (2, .int isB), (4, .int f2), (5, .int (nI j))]) hx hb dX8_advantage_101 rfl hl (by decide) rfl (fun ls hl => ?_)
            refine lv_aload_n hx hb dX8_advantage_102 rfl (lv_at hl 1 rfl) ?_
            refine va_get (D := (dC, dI)) (ci := 8) (v := .ref (AM 2)) (C := RX8) (T := TX8) (N := 17) hx hb hts inw_X8_advantage_X8 hown hK hP 0 rfl rfl 2 (by decide) (hts (.fieldLink RX8 13 "DuelFramesModel" "s" "[I") (List.mem_of_getElem? (i := 1) rfl)) (fun _ h9 => h9) rfl dX8_advantage_103 ?_
            refine lv_bipush (v := 14) hx hb dX8_advantage_106 (by decide) ?_
            refine va_iald hx hb hK hP 2 0 rfl rfl (vin rfl) dX8_advantage_108 ?_
            refine lv_topi (fun x_28 ex_28 => ?_)
            obtain rfl : x_28 = (z_24 14) := ex_28
            refine jnW (D := (dC, dI)) (ws := [(m0, .inr (8, mdL AM z_23)), (AM 0, .inl (cY 0, 72, .inl tb)), (AM 2, .inl (cY 0, 22, .inl z_24)), (AM 3, .inl (cY 0, 22, .inl rd)), (AM 4, .inl (cY 0, 110, .inl kp)), (AM 5, .inl (cY 0, 8414, .inl td)), (AM 6, .inl (cY 0, 2, .inl wn)), (AM 13, .inl (cY 0, 4, .inl rw)), (AM 14, .inl (cY 0, 4, .inl br))]) (lv := [(3, .int (X8_advantage_j101 tb f1 isB j move sA9)), (0, .ref m0), (1, .int move), (2, .int isB), (5, .int (nI j))]) (st := [.int (X8_advantage_j121 tb f2 isB j move sA9)]) (J := 121) (n := 6) (A := A) (H0 := s.heap) ?_ ?_
            · intro H locs ls hP hD hS hl
              refine lv_istore (lv' := [(4, .int (X8_advantage_j121 tb f2 isB j move sA9)), (3, .int (X8_advantage_j101 tb f1 isB j move sA9)), (0, .ref m0), (1, .int move), (2, .int isB), (5, .int (nI j))]) hx hb dX8_advantage_121 hl (by decide) rfl (fun ls hl => ?_)
              refine lv_iinc (v := ((nI j) + 1)) (lv' := [(5, .int ((nI j) + 1)), (4, .int (X8_advantage_j121 tb f2 isB j move sA9)), (3, .int (X8_advantage_j101 tb f1 isB j move sA9)), (0, .ref m0), (1, .int move), (2, .int isB)]) hx hb dX8_advantage_123 hl (k := 5) rfl (by first | rfl | decide) (by decide) rfl (fun ls hl => ?_)
              refine lv_goto (tgt := 44) hx hb dX8_advantage_126 (by decide) ?_
              have hP9 : va_P (dC, dI) vwCl [(m0, .inr (8, mdL AM z_23)), (AM 0, .inl (cY 0, 72, .inl tb)), (AM 2, .inl (cY 0, 22, .inl z_24)), (AM 3, .inl (cY 0, 22, .inl rd)), (AM 4, .inl (cY 0, 110, .inl kp)), (AM 5, .inl (cY 0, 8414, .inl td)), (AM 6, .inl (cY 0, 2, .inl wn)), (AM 13, .inl (cY 0, 4, .inl rw)), (AM 14, .inl (cY 0, 4, .inl br))] H := by exact hP
              have hD9 : va_D A [(m0, .inr (8, mdL AM z_23)), (AM 0, .inl (cY 0, 72, .inl tb)), (AM 2, .inl (cY 0, 22, .inl z_24)), (AM 3, .inl (cY 0, 22, .inl rd)), (AM 4, .inl (cY 0, 110, .inl kp)), (AM 5, .inl (cY 0, 8414, .inl td)), (AM 6, .inl (cY 0, 2, .inl wn)), (AM 13, .inl (cY 0, 4, .inl rw)), (AM 14, .inl (cY 0, 4, .inl br))] := by exact hD
              have hl9 : lv_has ls 6 [(0, .ref m0), (1, .int move), (2, .int isB), (3, .int (X8_advantage_j101 tb f1 isB j move sA9)), (4, .int (X8_advantage_j121 tb f2 isB j move sA9)), (5, .int (nI (j + 1)))] := by rw [show nI (j + 1) = nI j + 1 from nI_succ _]; exact lv_sub hl [3, 4, 5, 2, 1, 0] rfl
              replace hk := hk (z_23, z_24, (X8_advantage_j101 tb f1 isB j move sA9), (X8_advantage_j121 tb f2 isB j move sA9))
              (try dsimp only at hk)
              exact hk ⟨by rw [X8_adv_it, ← hi.1]; simp only [X8_adv_step, ← ez_16, ← ez_23, ← ez_24], hsz_24⟩ _ _ _ hP9 hD9 hS hl9
            · intro jn_30
              refine lv_if_ne (tgt := 117) hx hb dX8_advantage_109 (by decide) (fun c_29 => ?_) (fun c_29 => ?_)
              · refine lv_iload hx hb dX8_advantage_117 (lv_at hl 5 rfl) ?_
                refine lv_iconst (v := 2) hx hb dX8_advantage_119 (by decide) ?_
                refine lv_iadd hx hb dX8_advantage_120 ?_
                have e_31 : (X8_advantage_j121 tb f2 isB j move sA9) = ((nI j) + 2) := by rw [X8_advantage_j121]; simp only [← ez_16, ← ez_23, ← ez_24, eq_false c_29, ↓reduceIte]
                refine W.eq (g2 := F0 m 121 ls [.int (X8_advantage_j121 tb f2 isB j move sA9)]) (by simp only [e_31]) ?_
                exact jn_30 _ _ _ (by (try simp only [e_31]); exact hP) (by (try simp only [e_31]); exact hD) hS (by (try simp only [e_31]); exact (lv_sub hl [0, 1, 2, 3, 5] rfl))
              · refine lv_iload hx hb dX8_advantage_112 (lv_at hl 4 rfl) ?_
                refine lv_goto (tgt := 121) hx hb dX8_advantage_114 (by decide) ?_
                have e_32 : (X8_advantage_j121 tb f2 isB j move sA9) = f2 := by rw [X8_advantage_j121]; simp only [← ez_16, ← ez_23, ← ez_24, eq_true c_29, ↓reduceIte]
                refine W.eq (g2 := F0 m 121 ls [.int (X8_advantage_j121 tb f2 isB j move sA9)]) (by simp only [e_32]) ?_
                exact jn_30 _ _ _ (by (try simp only [e_32]); exact hP) (by (try simp only [e_32]); exact hD) hS (by (try simp only [e_32]); exact (lv_sub hl [0, 1, 2, 3, 5] rfl))
          · intro jn_27
            refine lv_if_ne (tgt := 97) hx hb dX8_advantage_90 (by decide) (fun c_26 => ?_) (fun c_26 => ?_)
            · refine lv_iload hx hb dX8_advantage_97 (lv_at hl 5 rfl) ?_
              refine lv_iconst (v := 2) hx hb dX8_advantage_99 (by decide) ?_
              refine lv_iadd hx hb dX8_advantage_100 ?_
              have e_33 : (X8_advantage_j101 tb f1 isB j move sA9) = ((nI j) + 2) := by rw [X8_advantage_j101]; simp only [← ez_16, ← ez_23, ← ez_24, eq_false c_26, ↓reduceIte]
              refine W.eq (g2 := F0 m 101 ls [.int (X8_advantage_j101 tb f1 isB j move sA9)]) (by simp only [e_33]) ?_
              exact jn_27 _ _ _ (by (try simp only [e_33]); exact hP) (by (try simp only [e_33]); exact hD) hS (by (try simp only [e_33]); exact (lv_sub hl [0, 1, 2, 4, 5] rfl))
            · refine lv_iload_n hx hb dX8_advantage_93 rfl (lv_at hl 3 rfl) ?_
              refine lv_goto (tgt := 101) hx hb dX8_advantage_94 (by decide) ?_
              have e_34 : (X8_advantage_j101 tb f1 isB j move sA9) = f1 := by rw [X8_advantage_j101]; simp only [← ez_16, ← ez_23, ← ez_24, eq_true c_26, ↓reduceIte]
              refine W.eq (g2 := F0 m 101 ls [.int (X8_advantage_j101 tb f1 isB j move sA9)]) (by simp only [e_34]) ?_
              exact jn_27 _ _ _ (by (try simp only [e_34]); exact hP) (by (try simp only [e_34]); exact hD) hS (by (try simp only [e_34]); exact (lv_sub hl [0, 1, 2, 4, 5] rfl))
        · intro jn_21
          refine lv_if_eq (tgt := 80) hx hb dX8_advantage_67 (by decide) (fun c_20 => ?_) (fun c_20 => ?_)
          · refine lv_iconst (v := 0) hx hb dX8_advantage_80 (by decide) ?_
            have e_35 : (X8_advantage_j81 tb isB j move) = 0 := by rw [X8_advantage_j81]; simp only [← ez_16, eq_true c_20, ↓reduceIte]
            refine W.eq (g2 := F0 m 81 ls [.int (X8_advantage_j81 tb isB j move), .int (X8_advantage_j66 j move), .ref m0]) (by simp only [e_35]) ?_
            exact jn_21 _ _ _ (by (try simp only [e_35]); exact hP) (by (try simp only [e_35]); exact hD) hS (by (try simp only [e_35]); exact (lv_sub hl [0, 1, 2, 3, 4, 5] rfl))
          · refine lv_aload_n hx hb dX8_advantage_70 rfl (lv_at hl 0 rfl) ?_
            refine lv_iload_n hx hb dX8_advantage_71 rfl (lv_at hl 1 rfl) ?_
            refine lv_iload hx hb dX8_advantage_72 (lv_at hl 5 rfl) ?_
            refine vp_callSi (W.runV (As := [.int move, .int (nI j)]) (rest := [.int (X8_advantage_j66 j move), .ref m0]) ⟨hx, hb, hml, hown, hts⟩ (c_X8_blocking l dC dI cY m0 AM g9 tb sA9 rd kp td wn rw br move (nI j) (by (try simp only [ez_16]); exact (isMove_ok hmv c_3))) (cwV 2 hts gX8_advantage_X8_blocking rfl rfl rfl (by decide +kernel) ⟨Nat.le_of_ble_eq_true rfl, Nat.le_of_ble_eq_true rfl⟩) ⟨blindR, va_recv hK hP (ci := 8) (q0 := 0) rfl rfl, fun U hU hW => ⟨rfl, rPre_of hP hK hN U hU hW⟩⟩ rfl rfl hl.1 rfl (lv_room (Nat.le_of_ble_eq_true rfl)) dX8_advantage_74 ⟨Nat.zero_le _, Nat.zero_le _⟩) (fun r_36 hw => ?_)
            subst hw
            refine lv_goto (tgt := 81) hx hb dX8_advantage_77 (by decide) ?_
            have e_37 : (X8_advantage_j81 tb isB j move) = (X8_blocking_r tb (nI j) move) := by rw [X8_advantage_j81]; simp only [← ez_16, eq_false c_20, ↓reduceIte]
            refine W.eq (g2 := F0 m 81 ls [.int (X8_advantage_j81 tb isB j move), .int (X8_advantage_j66 j move), .ref m0]) (by simp only [e_37]) ?_
            exact jn_21 _ _ _ (by (try simp only [e_37]); exact hP) (by (try simp only [e_37]); exact hD) hS (by (try simp only [e_37]); exact (lv_sub hl [0, 1, 2, 3, 4, 5] rfl))
      · intro jn_19
        refine lv_if_ne (tgt := 65) hx hb dX8_advantage_55 (by decide) (fun c_18 => ?_) (fun c_18 => ?_)
        · refine lv_iconst (v := 0) hx hb dX8_advantage_65 (by decide) ?_
          have e_38 : (X8_advantage_j66 j move) = 0 := by rw [X8_advantage_j66]; simp only [← ez_16, eq_false c_18, ↓reduceIte]
          refine W.eq (g2 := F0 m 66 ls [.int (X8_advantage_j66 j move), .ref m0]) (by simp only [e_38]) ?_
          exact jn_19 _ _ _ (by (try simp only [e_38]); exact hP) (by (try simp only [e_38]); exact hD) hS (by (try simp only [e_38]); exact (lv_sub hl [0, 1, 2, 3, 4, 5] rfl))
        · refine lv_bipush (v := 10) hx hb dX8_advantage_58 (by decide) ?_
          refine lv_iload_n hx hb dX8_advantage_60 rfl (lv_at hl 1 rfl) ?_
          refine lv_iadd hx hb dX8_advantage_61 ?_
          refine lv_goto (tgt := 66) hx hb dX8_advantage_62 (by decide) ?_
          have e_39 : (X8_advantage_j66 j move) = (10 + move) := by rw [X8_advantage_j66]; simp only [← ez_16, eq_true c_18, ↓reduceIte]
          refine W.eq (g2 := F0 m 66 ls [.int (X8_advantage_j66 j move), .ref m0]) (by simp only [e_39]) ?_
          exact jn_19 _ _ _ (by (try simp only [e_39]); exact hP) (by (try simp only [e_39]); exact hD) hS (by (try simp only [e_39]); exact (lv_sub hl [0, 1, 2, 3, 4, 5] rfl))
    · rintro ⟨g9, sA9, f1, f2⟩ hi H locs ls hP hD hS hl
      (try dsimp only at hi)
      obtain ⟨hi, hs9⟩ := hi
      have q44_0 : g9 = (X8_adv_it tb isB move ((upd g 12 0), z_16, 0, 0) 200).1 := congrArg (fun z => z.1) hi
      have q44_1 : sA9 = (X8_adv_it tb isB move ((upd g 12 0), z_16, 0, 0) 200).2.1 := congrArg (fun z => z.2.1) hi
      have q44_2 : f1 = (X8_adv_it tb isB move ((upd g 12 0), z_16, 0, 0) 200).2.2.1 := congrArg (fun z => z.2.2.1) hi
      have q44_3 : f2 = (X8_adv_it tb isB move ((upd g 12 0), z_16, 0, 0) 200).2.2.2 := congrArg (fun z => z.2.2.2) hi
      have hP : va_P (dC, dI) vwCl [(m0, .inr (8, mdL AM g9)), (AM 0, .inl (cY 0, 72, .inl tb)), (AM 2, .inl (cY 0, 22, .inl sA9)), (AM 3, .inl (cY 0, 22, .inl rd)), (AM 4, .inl (cY 0, 110, .inl kp)), (AM 5, .inl (cY 0, 8414, .inl td)), (AM 6, .inl (cY 0, 2, .inl wn)), (AM 13, .inl (cY 0, 4, .inl rw)), (AM 14, .inl (cY 0, 4, .inl br))] H := hP
      have hD : va_D A [(m0, .inr (8, mdL AM g9)), (AM 0, .inl (cY 0, 72, .inl tb)), (AM 2, .inl (cY 0, 22, .inl sA9)), (AM 3, .inl (cY 0, 22, .inl rd)), (AM 4, .inl (cY 0, 110, .inl kp)), (AM 5, .inl (cY 0, 8414, .inl td)), (AM 6, .inl (cY 0, 2, .inl wn)), (AM 13, .inl (cY 0, 4, .inl rw)), (AM 14, .inl (cY 0, 4, .inl br))] := hD
      have hl : lv_has ls 6 [(0, .ref m0), (1, .int move), (2, .int isB), (3, .int f1), (4, .int f2), (5, .int 200)] := hl
      refine lv_iload hx hb dX8_advantage_44 (lv_at hl 5 rfl) ?_
      refine lv_sipush (v := 200) hx hb dX8_advantage_46 (by decide) ?_
      refine lv_icmp_ge (tgt := 129) hx hb dX8_advantage_49 (by decide) (fun c_40 => ?_) (fun c_40 => ?_)
      rotate_left
      · exact absurd (by decide) c_40
      refine lv_iload hx hb dX8_advantage_129 (lv_at hl 4 rfl) ?_
      refine lv_iload_n hx hb dX8_advantage_131 rfl (lv_at hl 3 rfl) ?_
      refine lv_isub hx hb dX8_advantage_132 ?_
      have eo_41 : (X8_advantage_r g tb sA isB move) = (f2 - f1) := by rw [X8_advantage_r]; simp only [← ez_16, ← q44_0, ← q44_1, ← q44_2, ← q44_3, eq_false c_3, ↓reduceIte]
      have eo_42 : (X8_advantage_w0 g tb sA isB move) = g9 := by rw [X8_advantage_w0]; simp only [← ez_16, ← q44_0, ← q44_1, ← q44_2, ← q44_3, eq_false c_3, ↓reduceIte]
      have eo_43 : (X8_advantage_w2 g tb sA isB move) = sA9 := by rw [X8_advantage_w2]; simp only [← ez_16, ← q44_0, ← q44_1, ← q44_2, ← q44_3, eq_false c_3, ↓reduceIte]
      have hP9 : va_P (dC, dI) vwCl [(m0, .inr (8, mdL AM (X8_advantage_w0 g tb sA isB move))), (AM 0, .inl (cY 0, 72, .inl tb)), (AM 2, .inl (cY 0, 22, .inl (X8_advantage_w2 g tb sA isB move))), (AM 3, .inl (cY 0, 22, .inl rd)), (AM 4, .inl (cY 0, 110, .inl kp)), (AM 5, .inl (cY 0, 8414, .inl td)), (AM 6, .inl (cY 0, 2, .inl wn)), (AM 13, .inl (cY 0, 4, .inl rw)), (AM 14, .inl (cY 0, 4, .inl br))] H := by simp only [eo_42, eo_43]; exact hP
      have hD9 : va_D A [(m0, .inr (8, mdL AM (X8_advantage_w0 g tb sA isB move))), (AM 0, .inl (cY 0, 72, .inl tb)), (AM 2, .inl (cY 0, 22, .inl (X8_advantage_w2 g tb sA isB move))), (AM 3, .inl (cY 0, 22, .inl rd)), (AM 4, .inl (cY 0, 110, .inl kp)), (AM 5, .inl (cY 0, 8414, .inl td)), (AM 6, .inl (cY 0, 2, .inl wn)), (AM 13, .inl (cY 0, 4, .inl rw)), (AM 14, .inl (cY 0, 4, .inl br))] := by simp only [eo_42, eo_43]; exact hD
      exact W.iret (v := (f2 - f1)) hx hb hr (fun t ht hW => ⟨⟨_, (), rfl, eo_41.symm, wPost_of hP9 hD9 ht⟩, hS.F ht⟩) hS.2.2 dX8_advantage_133
theorem inw_X8_lossBy_X8 : ∀ w ∈ u_ws RX8 TX8 17, w ∈ wsX8_lossBy := fun _ h => List.mem_cons_of_mem _ (List.mem_append_right _ h)
def X8_lossBy_j49 (ph : Int32) (sA9 : Nat → Int32) : Int32 := (if ph = 1 then (if (sA9 14) = 0 then 1 else 0) else 0)
def X8_lossBy_j80 (tb : Nat → Int32) (by_ : Int32) (j : Nat) (move : Int32) (ph : Int32) (sA9 : Nat → Int32) : Int32 := (if ph = 2 then 0 else (if (X8_lossBy_j49 ph sA9) = 0 then (X8_blocking_r tb (nI j) move) else (10 + by_)))
def X8_lossBy_j93 (ph : Int32) (sA9 : Nat → Int32) : Int32 := (if (X8_lossBy_j49 ph sA9) = 0 then ph else 2)
def X8_lossBy_j109 (guard : Int32) (j : Nat) (move : Int32) : Int32 := (if (nI j) = 0 then (10 + move) else guard)
def X8_lossBy_j136 (tb : Nat → Int32) (by_ : Int32) (guard : Int32) (j : Nat) (move : Int32) (ph : Int32) (sA9 : Nat → Int32) : Int32 := (if (X8_lossBy_j93 ph sA9) = 0 then (if ((X8_frame_w2 tb sA9 (X8_lossBy_j109 guard j move) (X8_lossBy_j80 tb by_ j move ph sA9)) 14) = 3 then 1 else (X8_lossBy_j93 ph sA9)) else (X8_lossBy_j93 ph sA9))
def X8_los_step (tb : Nat → Int32) (by_ : Int32) (guard : Int32) (move : Int32) (j : Nat) (x : (Nat → Int32) × (Nat → Int32) × Int32) : (Nat → Int32) × (Nat → Int32) × Int32 := ((X8_frame_w0 x.1 tb x.2.1 (X8_lossBy_j109 guard j move) (X8_lossBy_j80 tb by_ j move x.2.2 x.2.1)), (X8_frame_w2 tb x.2.1 (X8_lossBy_j109 guard j move) (X8_lossBy_j80 tb by_ j move x.2.2 x.2.1)), (X8_lossBy_j136 tb by_ guard j move x.2.2 x.2.1))
def X8_los_it (tb : Nat → Int32) (by_ : Int32) (guard : Int32) (move : Int32) (x0 : (Nat → Int32) × (Nat → Int32) × Int32) : Nat → (Nat → Int32) × (Nat → Int32) × Int32
  | 0 => x0
  | n + 1 => X8_los_step tb by_ guard move n (X8_los_it tb by_ guard move x0 n)
def X8_lossBy_r (g : Nat → Int32) (tb : Nat → Int32) (sA : Nat → Int32) (by_ : Int32) (guard : Int32) (move : Int32) : Int32 := (if (X8_los_it tb by_ guard move (g, (X8_lay_w2 sA 100 310 100 290), 0) 200).2.2 = 0 then (-1) else (1000 - ((X8_los_it tb by_ guard move (g, (X8_lay_w2 sA 100 310 100 290), 0) 200).2.1 1)))
def X8_lossBy_w0 (g : Nat → Int32) (tb : Nat → Int32) (sA : Nat → Int32) (by_ : Int32) (guard : Int32) (move : Int32) : Nat → Int32 := (X8_los_it tb by_ guard move (g, (X8_lay_w2 sA 100 310 100 290), 0) 200).1
def X8_lossBy_w2 (g : Nat → Int32) (tb : Nat → Int32) (sA : Nat → Int32) (by_ : Int32) (guard : Int32) (move : Int32) : Nat → Int32 := (X8_los_it tb by_ guard move (g, (X8_lay_w2 sA 100 310 100 290), 0) 200).2.1
set_option maxHeartbeats 4000000 in
set_option maxRecDepth 100000 in
theorem c_X8_lossBy (l : Launch) (dC : Nat → ClassId) (dI : Nat → Nat → Nat) (cY : Nat → ClassId) (m0 : Nat) (AM : Nat → Nat) (g : Nat → Int32) (tb : Nat → Int32) (sA : Nat → Int32) (rd : Nat → Int32) (kp : Nat → Int32) (td : Nat → Int32) (wn : Nat → Int32) (rw : Nat → Int32) (br : Nat → Int32) (move : Int32) (by_ : Int32) (guard : Int32) (hm : okM move) (hm2 : okM by_) (hgd : okI guard) (sz : Nat) : Met l yX8_lossBy wsX8_lossBy ({ frames := 4, cells := 0, slots := 0, locals := 108 } : Room) (va_Pc [.ref m0, .int move, .int by_, .int guard] (wPre (dC, dI) (tyL cY) [(m0, .inr (8, mdL AM g)), (AM 0, .inl (cY 0, 72, .inl tb)), (AM 2, .inl (cY 0, 22, .inl sA)), (AM 3, .inl (cY 0, 22, .inl rd)), (AM 4, .inl (cY 0, 110, .inl kp)), (AM 5, .inl (cY 0, 8414, .inl td)), (AM 6, .inl (cY 0, 2, .inl wn)), (AM 13, .inl (cY 0, 4, .inl rw)), (AM 14, .inl (cY 0, 4, .inl br))] sz)) (va_Qi (fun (r : Int32) (_ : Unit) => r = (X8_lossBy_r g tb sA by_ guard move)) (wPost (dC, dI) [(m0, .inr (8, mdL AM (X8_lossBy_w0 g tb sA by_ guard move))), (AM 0, .inl (cY 0, 72, .inl tb)), (AM 2, .inl (cY 0, 22, .inl (X8_lossBy_w2 g tb sA by_ guard move))), (AM 3, .inl (cY 0, 22, .inl rd)), (AM 4, .inl (cY 0, 110, .inl kp)), (AM 5, .inl (cY 0, 8414, .inl td)), (AM 6, .inl (cY 0, 2, .inl wn)), (AM 13, .inl (cY 0, 4, .inl rw)), (AM 14, .inl (cY 0, 4, .inl br))] (va_A [(m0, .inr (8, mdL AM g)), (AM 0, .inl (cY 0, 72, .inl tb)), (AM 2, .inl (cY 0, 22, .inl sA)), (AM 3, .inl (cY 0, 22, .inl rd)), (AM 4, .inl (cY 0, 110, .inl kp)), (AM 5, .inl (cY 0, 8414, .inl td)), (AM 6, .inl (cY 0, 2, .inl wn)), (AM 13, .inl (cY 0, 4, .inl rw)), (AM 14, .inl (cY 0, 4, .inl br))] sz)) (va_A [(m0, .inr (8, mdL AM g)), (AM 0, .inl (cY 0, 72, .inl tb)), (AM 2, .inl (cY 0, 22, .inl sA)), (AM 3, .inl (cY 0, 22, .inl rd)), (AM 4, .inl (cY 0, 110, .inl kp)), (AM 5, .inl (cY 0, 8414, .inl td)), (AM 6, .inl (cY 0, 2, .inl wn)), (AM 13, .inl (cY 0, 4, .inl rw)), (AM 14, .inl (cY 0, 4, .inl br))] sz)) 0 0 (va_A [(m0, .inr (8, mdL AM g)), (AM 0, .inl (cY 0, 72, .inl tb)), (AM 2, .inl (cY 0, 22, .inl sA)), (AM 3, .inl (cY 0, 22, .inl rd)), (AM 4, .inl (cY 0, 110, .inl kp)), (AM 5, .inl (cY 0, 8414, .inl td)), (AM 6, .inl (cY 0, 2, .inl wn)), (AM 13, .inl (cY 0, 4, .inl rw)), (AM 14, .inl (cY 0, 4, .inl br))] sz) := by
  refine Met.ofW (cc := cX8_lossBy) (maxL := 8) (ret := (some .int)) (by decide) rfl ?_
  intro p e s m args below meth c s₁ B hml hv
  obtain ⟨rfl, hsz, hP, hK, hN, hD0⟩ := hv
  have hx := B.exec
  have hb := B.bytes
  have hr := B.returns
  have hts := atoms_spec (ws := wsX8_lossBy) B.pre
  have hown : s.vm.findClass RX8 = some m.cls := findClass_of_methodNamed B.named
  have hlocks := B.notSynchronized
  subst hsz
  have hD := hD0.self (sz := s.heap.size)
  generalize hAe : va_A [(m0, .inr (8, mdL AM g)), (AM 0, .inl (cY 0, 72, .inl tb)), (AM 2, .inl (cY 0, 22, .inl sA)), (AM 3, .inl (cY 0, 22, .inl rd)), (AM 4, .inl (cY 0, 110, .inl kp)), (AM 5, .inl (cY 0, 8414, .inl td)), (AM 6, .inl (cY 0, 2, .inl wn)), (AM 13, .inl (cY 0, 4, .inl rw)), (AM 14, .inl (cY 0, 4, .inl br))] s.heap.size = A at hD ⊢
  have hA : ∀ q : Nat, s.heap.size ≤ q → A q := fun q h => by rw [← hAe]; exact Or.inr h
  have hS : va_S A s.heap s.heap [] := va_S.rf
  have hP : va_P (dC, dI) vwCl [(m0, .inr (8, mdL AM g)), (AM 0, .inl (cY 0, 72, .inl tb)), (AM 2, .inl (cY 0, 22, .inl sA)), (AM 3, .inl (cY 0, 22, .inl rd)), (AM 4, .inl (cY 0, 110, .inl kp)), (AM 5, .inl (cY 0, 8414, .inl td)), (AM 6, .inl (cY 0, 2, .inl wn)), (AM 13, .inl (cY 0, 4, .inl rw)), (AM 14, .inl (cY 0, 4, .inl br))] s.heap := hP
  have hl := lv_entry ([.ref m0, .int move, .int by_, .int guard]) (n := 8) (Nat.le_of_ble_eq_true rfl)
  rw [lg_entry_eq]
  generalize (lg_sl ([.ref m0, .int move, .int by_, .int guard]) ++ List.replicate (8 - (lg_sl ([.ref m0, .int move, .int by_, .int guard])).length) Slot.unset).toArray = ls at hl ⊢
  have hl : lv_has ls 8 [(0, .ref m0), (1, .int move), (2, .int by_), (3, .int guard)] := hl
  refine lv_aload_n hx hb dX8_lossBy_0 rfl (lv_at hl 0 rfl) ?_
  refine lv_sipush (v := 290) hx hb dX8_lossBy_1 (by decide) ?_
  refine lv_sipush (v := 310) hx hb dX8_lossBy_4 (by decide) ?_
  refine lv_bipush (v := 100) hx hb dX8_lossBy_7 (by decide) ?_
  refine lv_bipush (v := 100) hx hb dX8_lossBy_9 (by decide) ?_
  have hPc := hP.sub (ws' := [(m0, .inr (8, mdL AM g)), (AM 0, .inl (cY 0, 72, .inl tb)), (AM 2, .inl (cY 0, 22, .inl sA)), (AM 3, .inl (cY 0, 22, .inl rd)), (AM 4, .inl (cY 0, 110, .inl kp)), (AM 5, .inl (cY 0, 8414, .inl td)), (AM 6, .inl (cY 0, 2, .inl wn)), (AM 13, .inl (cY 0, 4, .inl rw)), (AM 14, .inl (cY 0, 4, .inl br))]) [0, 1, 2, 3, 4, 5, 6, 7, 8] rfl
  have hDc := hD.sub (ws' := [(m0, .inr (8, mdL AM g)), (AM 0, .inl (cY 0, 72, .inl tb)), (AM 2, .inl (cY 0, 22, .inl sA)), (AM 3, .inl (cY 0, 22, .inl rd)), (AM 4, .inl (cY 0, 110, .inl kp)), (AM 5, .inl (cY 0, 8414, .inl td)), (AM 6, .inl (cY 0, 2, .inl wn)), (AM 13, .inl (cY 0, 4, .inl rw)), (AM 14, .inl (cY 0, 4, .inl br))]) [0, 1, 2, 3, 4, 5, 6, 7, 8] (by decide) rfl
  have hFc := va_free (wc := [(m0, .inr (8, mdL AM g)), (AM 0, .inl (cY 0, 72, .inl tb)), (AM 2, .inl (cY 0, 22, .inl sA)), (AM 3, .inl (cY 0, 22, .inl rd)), (AM 4, .inl (cY 0, 110, .inl kp)), (AM 5, .inl (cY 0, 8414, .inl td)), (AM 6, .inl (cY 0, 2, .inl wn)), (AM 13, .inl (cY 0, 4, .inl rw)), (AM 14, .inl (cY 0, 4, .inl br))]) hD hS hA [0, 1, 2, 3, 4, 5, 6, 7, 8] rfl
  refine va_callv (va_runV (As := [.int 290, .int 310, .int 100, .int 100]) (rest := []) ⟨hx, hb, hml, hown, hts⟩ (c_X8_lay l dC dI cY m0 AM g tb sA rd kp td wn rw br 290 310 100 100 s.heap.size) (cwV 4 hts gX8_lossBy_X8_lay rfl rfl rfl (by decide +kernel) ⟨Nat.le_of_ble_eq_true rfl, Nat.le_of_ble_eq_true rfl⟩) ⟨blindW, va_recv hK hPc (ci := 8) (q0 := 0) rfl rfl, fun U hU hW => ⟨rfl, wPre_of hPc hK hN hDc U hU hW⟩⟩ rfl rfl hl.1 rfl (lv_room (Nat.le_of_ble_eq_true rfl)) dX8_lossBy_11 ⟨Nat.zero_le _, Nat.zero_le _⟩) hS (fun q _ h => hFc q h) hFc (fun u t H1 locs ht hvm hw hB hz1 hk1 hS1 => ?_)
  have hJ := wJoin (wr := []) (w1 := [(m0, .inr (8, mdL AM g)), (AM 0, .inl (cY 0, 72, .inl tb)), (AM 2, .inl (cY 0, 22, .inl (X8_lay_w2 sA 100 310 100 290))), (AM 3, .inl (cY 0, 22, .inl rd)), (AM 4, .inl (cY 0, 110, .inl kp)), (AM 5, .inl (cY 0, 8414, .inl td)), (AM 6, .inl (cY 0, 2, .inl wn)), (AM 13, .inl (cY 0, 4, .inl rw)), (AM 14, .inl (cY 0, 4, .inl br))]) (wn := [(m0, .inr (8, mdL AM g)), (AM 0, .inl (cY 0, 72, .inl tb)), (AM 2, .inl (cY 0, 22, .inl (X8_lay_w2 sA 100 310 100 290))), (AM 3, .inl (cY 0, 22, .inl rd)), (AM 4, .inl (cY 0, 110, .inl kp)), (AM 5, .inl (cY 0, 8414, .inl td)), (AM 6, .inl (cY 0, 2, .inl wn)), (AM 13, .inl (cY 0, 4, .inl rw)), (AM 14, .inl (cY 0, 4, .inl br))]) hP hD [0, 1, 2, 3, 4, 5, 6, 7, 8] [] rfl rfl (by decide) (by decide) hk1 hFc hB ht [0, 1, 2, 3, 4, 5, 6, 7, 8] rfl (by decide)
  clear hB hk1 hFc hPc hDc hP hD hS hz1 hvm ht t
  obtain ⟨hP1, hD1⟩ := hJ
  generalize H1 = H at hP1 hS1 ⊢
  have hP : va_P (dC, dI) vwCl [(m0, .inr (8, mdL AM g)), (AM 0, .inl (cY 0, 72, .inl tb)), (AM 2, .inl (cY 0, 22, .inl (X8_lay_w2 sA 100 310 100 290))), (AM 3, .inl (cY 0, 22, .inl rd)), (AM 4, .inl (cY 0, 110, .inl kp)), (AM 5, .inl (cY 0, 8414, .inl td)), (AM 6, .inl (cY 0, 2, .inl wn)), (AM 13, .inl (cY 0, 4, .inl rw)), (AM 14, .inl (cY 0, 4, .inl br))] H := hP1
  have hD : va_D A [(m0, .inr (8, mdL AM g)), (AM 0, .inl (cY 0, 72, .inl tb)), (AM 2, .inl (cY 0, 22, .inl (X8_lay_w2 sA 100 310 100 290))), (AM 3, .inl (cY 0, 22, .inl rd)), (AM 4, .inl (cY 0, 110, .inl kp)), (AM 5, .inl (cY 0, 8414, .inl td)), (AM 6, .inl (cY 0, 2, .inl wn)), (AM 13, .inl (cY 0, 4, .inl rw)), (AM 14, .inl (cY 0, 4, .inl br))] := hD1
  have hS := hS1
  clear hP1 hD1 hS1
  obtain ⟨z_2, ez_2⟩ : ∃ z, z = (X8_lay_w2 sA 100 310 100 290) := ⟨_, rfl⟩
  rw [← ez_2] at hP hD
  have hsz_2 : okS z_2 := by rw [ez_2]; exact okS_lay
  refine lv_iconst (v := 0) hx hb dX8_lossBy_14 (by decide) ?_
  refine lv_istore (lv' := [(4, .int 0), (0, .ref m0), (1, .int move), (2, .int by_), (3, .int guard)]) hx hb dX8_lossBy_15 hl (by decide) rfl (fun ls hl => ?_)
  refine lv_iconst (v := 0) hx hb dX8_lossBy_17 (by decide) ?_
  refine lv_istore (lv' := [(5, .int 0), (4, .int 0), (0, .ref m0), (1, .int move), (2, .int by_), (3, .int guard)]) hx hb dX8_lossBy_18 hl (by decide) rfl (fun ls hl => ?_)
  refine loopI (D := (dC, dI)) (σ := (Nat → Int32) × (Nat → Int32) × Int32) 200 (fun j x => [(m0, .inr (8, mdL AM x.1)), (AM 0, .inl (cY 0, 72, .inl tb)), (AM 2, .inl (cY 0, 22, .inl x.2.1)), (AM 3, .inl (cY 0, 22, .inl rd)), (AM 4, .inl (cY 0, 110, .inl kp)), (AM 5, .inl (cY 0, 8414, .inl td)), (AM 6, .inl (cY 0, 2, .inl wn)), (AM 13, .inl (cY 0, 4, .inl rw)), (AM 14, .inl (cY 0, 4, .inl br))]) (fun j x => [(0, .ref m0), (1, .int move), (2, .int by_), (3, .int guard), (4, .int x.2.2), (5, .int (nI j))]) 20 8 (A := A) (H0 := s.heap) (fun j x => x = (X8_los_it tb by_ guard move (g, z_2, 0) j) ∧ okS x.2.1) ?_ ?_ (g, z_2, 0) ⟨rfl, hsz_2⟩ hP hD hS (lv_sub hl [2, 3, 4, 5, 1, 0] rfl)
  · rintro j ⟨g9, sA9, ph⟩ hj hi H locs ls hP hD hS hl hk
    have hP : va_P (dC, dI) vwCl [(m0, .inr (8, mdL AM g9)), (AM 0, .inl (cY 0, 72, .inl tb)), (AM 2, .inl (cY 0, 22, .inl sA9)), (AM 3, .inl (cY 0, 22, .inl rd)), (AM 4, .inl (cY 0, 110, .inl kp)), (AM 5, .inl (cY 0, 8414, .inl td)), (AM 6, .inl (cY 0, 2, .inl wn)), (AM 13, .inl (cY 0, 4, .inl rw)), (AM 14, .inl (cY 0, 4, .inl br))] H := hP
    have hD : va_D A [(m0, .inr (8, mdL AM g9)), (AM 0, .inl (cY 0, 72, .inl tb)), (AM 2, .inl (cY 0, 22, .inl sA9)), (AM 3, .inl (cY 0, 22, .inl rd)), (AM 4, .inl (cY 0, 110, .inl kp)), (AM 5, .inl (cY 0, 8414, .inl td)), (AM 6, .inl (cY 0, 2, .inl wn)), (AM 13, .inl (cY 0, 4, .inl rw)), (AM 14, .inl (cY 0, 4, .inl br))] := hD
    have hl : lv_has ls 8 [(0, .ref m0), (1, .int move), (2, .int by_), (3, .int guard), (4, .int ph), (5, .int (nI j))] := hl
    (try dsimp only at hi)
    have hs9 := hi.2
    refine lv_iload hx hb dX8_lossBy_20 (lv_at hl 5 rfl) ?_
    refine lv_sipush (v := 200) hx hb dX8_lossBy_22 (by decide) ?_
    refine lv_icmp_ge (tgt := 144) hx hb dX8_lossBy_25 (by decide) (fun c_3 => ?_) (fun c_3 => ?_)
    · exact absurd c_3 (nI_ge (b := 200) hj (by decide))
    refine lv_iload hx hb dX8_lossBy_28 (lv_at hl 4 rfl) ?_
    refine lv_iconst (v := 1) hx hb dX8_lossBy_30 (by decide) ?_
    refine jnW (D := (dC, dI)) (ws := [(m0, .inr (8, mdL AM g9)), (AM 0, .inl (cY 0, 72, .inl tb)), (AM 2, .inl (cY 0, 22, .inl sA9)), (AM 3, .inl (cY 0, 22, .inl rd)), (AM 4, .inl (cY 0, 110, .inl kp)), (AM 5, .inl (cY 0, 8414, .inl td)), (AM 6, .inl (cY 0, 2, .inl wn)), (AM 13, .inl (cY 0, 4, .inl rw)), (AM 14, .inl (cY 0, 4, .inl br))]) (lv := [(0, .ref m0), (1, .int move), (2, .int by_), (3, .int guard), (4, .int ph), (5, .int (nI j))]) (st := [.int (X8_lossBy_j49 ph sA9)]) (J := 49) (n := 8) (A := A) (H0 := s.heap) ?_ ?_
    · intro H locs ls hP hD hS hl
      refine lv_istore (lv' := [(6, .int (X8_lossBy_j49 ph sA9)), (0, .ref m0), (1, .int move), (2, .int by_), (3, .int guard), (4, .int ph), (5, .int (nI j))]) hx hb dX8_lossBy_49 hl (by decide) rfl (fun ls hl => ?_)
      refine lv_iload hx hb dX8_lossBy_51 (lv_at hl 5 rfl) ?_
      refine lv_iconst (v := 2) hx hb dX8_lossBy_53 (by decide) ?_
      refine jnW (D := (dC, dI)) (ws := [(m0, .inr (8, mdL AM g9)), (AM 0, .inl (cY 0, 72, .inl tb)), (AM 2, .inl (cY 0, 22, .inl sA9)), (AM 3, .inl (cY 0, 22, .inl rd)), (AM 4, .inl (cY 0, 110, .inl kp)), (AM 5, .inl (cY 0, 8414, .inl td)), (AM 6, .inl (cY 0, 2, .inl wn)), (AM 13, .inl (cY 0, 4, .inl rw)), (AM 14, .inl (cY 0, 4, .inl br))]) (lv := [(6, .int (X8_lossBy_j49 ph sA9)), (0, .ref m0), (1, .int move), (2, .int by_), (3, .int guard), (4, .int ph), (5, .int (nI j))]) (st := [.int (X8_lossBy_j80 tb by_ j move ph sA9)]) (J := 80) (n := 8) (A := A) (H0 := s.heap) ?_ ?_
      · intro H locs ls hP hD hS hl
        refine lv_istore (lv' := [(7, .int (X8_lossBy_j80 tb by_ j move ph sA9)), (6, .int (X8_lossBy_j49 ph sA9)), (0, .ref m0), (1, .int move), (2, .int by_), (3, .int guard), (4, .int ph), (5, .int (nI j))]) hx hb dX8_lossBy_80 hl (by decide) rfl (fun ls hl => ?_)
        refine lv_iload hx hb dX8_lossBy_82 (lv_at hl 1 rfl) ?_
        refine jnW (D := (dC, dI)) (ws := [(m0, .inr (8, mdL AM g9)), (AM 0, .inl (cY 0, 72, .inl tb)), (AM 2, .inl (cY 0, 22, .inl sA9)), (AM 3, .inl (cY 0, 22, .inl rd)), (AM 4, .inl (cY 0, 110, .inl kp)), (AM 5, .inl (cY 0, 8414, .inl td)), (AM 6, .inl (cY 0, 2, .inl wn)), (AM 13, .inl (cY 0, 4, .inl rw)), (AM 14, .inl (cY 0, 4, .inl br))]) (lv := [(7, .int (X8_lossBy_j80 tb by_ j move ph sA9)), (0, .ref m0), (1, .int move), (2, .int by_), (3, .int guard), (5, .int (nI j))]) (st := [.int (X8_lossBy_j93 ph sA9)]) (J := 93) (n := 8) (A := A) (H0 := s.heap) ?_ ?_
        · intro H locs ls hP hD hS hl
          refine lv_istore (lv' := [(4, .int (X8_lossBy_j93 ph sA9)), (7, .int (X8_lossBy_j80 tb by_ j move ph sA9)), (0, .ref m0), (1, .int move), (2, .int by_), (3, .int guard), (5, .int (nI j))]) hx hb dX8_lossBy_93 hl (by decide) rfl (fun ls hl => ?_)
          refine lv_aload_n hx hb dX8_lossBy_95 rfl (lv_at hl 2 rfl) ?_
          refine lv_iload hx hb dX8_lossBy_96 (lv_at hl 6 rfl) ?_
          refine jnW (D := (dC, dI)) (ws := [(m0, .inr (8, mdL AM g9)), (AM 0, .inl (cY 0, 72, .inl tb)), (AM 2, .inl (cY 0, 22, .inl sA9)), (AM 3, .inl (cY 0, 22, .inl rd)), (AM 4, .inl (cY 0, 110, .inl kp)), (AM 5, .inl (cY 0, 8414, .inl td)), (AM 6, .inl (cY 0, 2, .inl wn)), (AM 13, .inl (cY 0, 4, .inl rw)), (AM 14, .inl (cY 0, 4, .inl br))]) (lv := [(4, .int (X8_lossBy_j93 ph sA9)), (7, .int (X8_lossBy_j80 tb by_ j move ph sA9)), (0, .ref m0), (1, .int move), (2, .int by_), (3, .int guard), (5, .int (nI j))]) (st := [.int (X8_lossBy_j109 guard j move), .ref m0]) (J := 109) (n := 8) (A := A) (H0 := s.heap) ?_ ?_
          · intro H locs ls hP hD hS hl
            refine lv_iload hx hb dX8_lossBy_109 (lv_at hl 1 rfl) ?_
            have hPc := hP.sub (ws' := [(m0, .inr (8, mdL AM g9)), (AM 0, .inl (cY 0, 72, .inl tb)), (AM 2, .inl (cY 0, 22, .inl sA9)), (AM 3, .inl (cY 0, 22, .inl rd)), (AM 4, .inl (cY 0, 110, .inl kp)), (AM 5, .inl (cY 0, 8414, .inl td)), (AM 6, .inl (cY 0, 2, .inl wn)), (AM 13, .inl (cY 0, 4, .inl rw)), (AM 14, .inl (cY 0, 4, .inl br))]) [0, 1, 2, 3, 4, 5, 6, 7, 8] rfl
            have hDc := hD.sub (ws' := [(m0, .inr (8, mdL AM g9)), (AM 0, .inl (cY 0, 72, .inl tb)), (AM 2, .inl (cY 0, 22, .inl sA9)), (AM 3, .inl (cY 0, 22, .inl rd)), (AM 4, .inl (cY 0, 110, .inl kp)), (AM 5, .inl (cY 0, 8414, .inl td)), (AM 6, .inl (cY 0, 2, .inl wn)), (AM 13, .inl (cY 0, 4, .inl rw)), (AM 14, .inl (cY 0, 4, .inl br))]) [0, 1, 2, 3, 4, 5, 6, 7, 8] (by decide) rfl
            have hFc := va_free (wc := [(m0, .inr (8, mdL AM g9)), (AM 0, .inl (cY 0, 72, .inl tb)), (AM 2, .inl (cY 0, 22, .inl sA9)), (AM 3, .inl (cY 0, 22, .inl rd)), (AM 4, .inl (cY 0, 110, .inl kp)), (AM 5, .inl (cY 0, 8414, .inl td)), (AM 6, .inl (cY 0, 2, .inl wn)), (AM 13, .inl (cY 0, 4, .inl rw)), (AM 14, .inl (cY 0, 4, .inl br))]) hD hS hA [0, 1, 2, 3, 4, 5, 6, 7, 8] rfl
            refine va_callv (va_runV (As := [.int (X8_lossBy_j109 guard j move), .int (X8_lossBy_j80 tb by_ j move ph sA9)]) (rest := []) ⟨hx, hb, hml, hown, hts⟩ (c_X8_frame l dC dI cY m0 AM g9 tb sA9 rd kp td wn rw br (X8_lossBy_j109 guard j move) (X8_lossBy_j80 tb by_ j move ph sA9) hs9 (by (try simp only [ez_2]); exact (show okI (X8_lossBy_j109 guard j move) from by unfold X8_lossBy_j109; exact (okI_if (okI_mv hm) hgd))) (by (try simp only [ez_2]); exact (show okI (X8_lossBy_j80 tb by_ j move ph sA9) from by unfold X8_lossBy_j80; exact (okI_if (Or.inl (by decide)) (okI_if (show okI (X8_blocking_r tb (nI j) move) from by unfold X8_blocking_r; exact (okI_if (okI_if (Or.inl (by decide)) (Or.inl (by decide))) (Or.inl (by decide)))) (okI_mv hm2))))) H.size) (cwV 2 hts gX8_lossBy_X8_frame rfl rfl rfl (by decide +kernel) ⟨Nat.le_of_ble_eq_true rfl, Nat.le_of_ble_eq_true rfl⟩) ⟨blindW, va_recv hK hPc (ci := 8) (q0 := 0) rfl rfl, fun U hU hW => ⟨rfl, wPre_of hPc hK hN hDc U hU hW⟩⟩ rfl rfl hl.1 rfl (lv_room (Nat.le_of_ble_eq_true rfl)) dX8_lossBy_111 ⟨Nat.zero_le _, Nat.zero_le _⟩) hS (fun q _ h => hFc q h) hFc (fun u t H1 locs ht hvm hw hB hz1 hk1 hS1 => ?_)
            have hJ := wJoin (wr := []) (w1 := [(m0, .inr (8, mdL AM (X8_frame_w0 g9 tb sA9 (X8_lossBy_j109 guard j move) (X8_lossBy_j80 tb by_ j move ph sA9)))), (AM 0, .inl (cY 0, 72, .inl tb)), (AM 2, .inl (cY 0, 22, .inl (X8_frame_w2 tb sA9 (X8_lossBy_j109 guard j move) (X8_lossBy_j80 tb by_ j move ph sA9)))), (AM 3, .inl (cY 0, 22, .inl rd)), (AM 4, .inl (cY 0, 110, .inl kp)), (AM 5, .inl (cY 0, 8414, .inl td)), (AM 6, .inl (cY 0, 2, .inl wn)), (AM 13, .inl (cY 0, 4, .inl rw)), (AM 14, .inl (cY 0, 4, .inl br))]) (wn := [(m0, .inr (8, mdL AM (X8_frame_w0 g9 tb sA9 (X8_lossBy_j109 guard j move) (X8_lossBy_j80 tb by_ j move ph sA9)))), (AM 0, .inl (cY 0, 72, .inl tb)), (AM 2, .inl (cY 0, 22, .inl (X8_frame_w2 tb sA9 (X8_lossBy_j109 guard j move) (X8_lossBy_j80 tb by_ j move ph sA9)))), (AM 3, .inl (cY 0, 22, .inl rd)), (AM 4, .inl (cY 0, 110, .inl kp)), (AM 5, .inl (cY 0, 8414, .inl td)), (AM 6, .inl (cY 0, 2, .inl wn)), (AM 13, .inl (cY 0, 4, .inl rw)), (AM 14, .inl (cY 0, 4, .inl br))]) hP hD [0, 1, 2, 3, 4, 5, 6, 7, 8] [] rfl rfl (by decide) (by decide) hk1 hFc hB ht [0, 1, 2, 3, 4, 5, 6, 7, 8] rfl (by decide)
            clear hB hk1 hFc hPc hDc hP hD hS hz1 hvm ht t
            obtain ⟨hP1, hD1⟩ := hJ
            generalize H1 = H at hP1 hS1 ⊢
            have hP : va_P (dC, dI) vwCl [(m0, .inr (8, mdL AM (X8_frame_w0 g9 tb sA9 (X8_lossBy_j109 guard j move) (X8_lossBy_j80 tb by_ j move ph sA9)))), (AM 0, .inl (cY 0, 72, .inl tb)), (AM 2, .inl (cY 0, 22, .inl (X8_frame_w2 tb sA9 (X8_lossBy_j109 guard j move) (X8_lossBy_j80 tb by_ j move ph sA9)))), (AM 3, .inl (cY 0, 22, .inl rd)), (AM 4, .inl (cY 0, 110, .inl kp)), (AM 5, .inl (cY 0, 8414, .inl td)), (AM 6, .inl (cY 0, 2, .inl wn)), (AM 13, .inl (cY 0, 4, .inl rw)), (AM 14, .inl (cY 0, 4, .inl br))] H := hP1
            have hD : va_D A [(m0, .inr (8, mdL AM (X8_frame_w0 g9 tb sA9 (X8_lossBy_j109 guard j move) (X8_lossBy_j80 tb by_ j move ph sA9)))), (AM 0, .inl (cY 0, 72, .inl tb)), (AM 2, .inl (cY 0, 22, .inl (X8_frame_w2 tb sA9 (X8_lossBy_j109 guard j move) (X8_lossBy_j80 tb by_ j move ph sA9)))), (AM 3, .inl (cY 0, 22, .inl rd)), (AM 4, .inl (cY 0, 110, .inl kp)), (AM 5, .inl (cY 0, 8414, .inl td)), (AM 6, .inl (cY 0, 2, .inl wn)), (AM 13, .inl (cY 0, 4, .inl rw)), (AM 14, .inl (cY 0, 4, .inl br))] := hD1
            have hS := hS1
            clear hP1 hD1 hS1
            obtain ⟨z_13, ez_13⟩ : ∃ z, z = (X8_frame_w0 g9 tb sA9 (X8_lossBy_j109 guard j move) (X8_lossBy_j80 tb by_ j move ph sA9)) := ⟨_, rfl⟩
            rw [← ez_13] at hP hD
            obtain ⟨z_14, ez_14⟩ : ∃ z, z = (X8_frame_w2 tb sA9 (X8_lossBy_j109 guard j move) (X8_lossBy_j80 tb by_ j move ph sA9)) := ⟨_, rfl⟩
            rw [← ez_14] at hP hD
            have hsz_14 : okS z_14 := by rw [ez_14]; exact okS_fr hs9 (show okI (X8_lossBy_j109 guard j move) from by unfold X8_lossBy_j109; exact (okI_if (okI_mv hm) hgd)) (show okI (X8_lossBy_j80 tb by_ j move ph sA9) from by unfold X8_lossBy_j80; exact (okI_if (Or.inl (by decide)) (okI_if (show okI (X8_blocking_r tb (nI j) move) from by unfold X8_blocking_r; exact (okI_if (okI_if (Or.inl (by decide)) (Or.inl (by decide))) (Or.inl (by decide)))) (okI_mv hm2))))
            refine lv_iload hx hb dX8_lossBy_114 (lv_at hl 0 rfl) ?_
            refine jnW (D := (dC, dI)) (ws := [(m0, .inr (8, mdL AM z_13)), (AM 0, .inl (cY 0, 72, .inl tb)), (AM 2, .inl (cY 0, 22, .inl z_14)), (AM 3, .inl (cY 0, 22, .inl rd)), (AM 4, .inl (cY 0, 110, .inl kp)), (AM 5, .inl (cY 0, 8414, .inl td)), (AM 6, .inl (cY 0, 2, .inl wn)), (AM 13, .inl (cY 0, 4, .inl rw)), (AM 14, .inl (cY 0, 4, .inl br))]) (lv := [(0, .ref m0), (1, .int move), (2, .int by_), (3, .int guard), (5, .int (nI j))]) (st := [.int (X8_lossBy_j136 tb by_ guard j move ph sA9)]) (J := 136) (n := 8) (A := A) (H0 := s.heap) ?_ ?_
            · intro H locs ls hP hD hS hl
              refine lv_istore (lv' := [(4, .int (X8_lossBy_j136 tb by_ guard j move ph sA9)), (0, .ref m0), (1, .int move), (2, .int by_), (3, .int guard), (5, .int (nI j))]) hx hb dX8_lossBy_136 hl (by decide) rfl (fun ls hl => ?_)
              refine lv_iinc (v := ((nI j) + 1)) (lv' := [(5, .int ((nI j) + 1)), (4, .int (X8_lossBy_j136 tb by_ guard j move ph sA9)), (0, .ref m0), (1, .int move), (2, .int by_), (3, .int guard)]) hx hb dX8_lossBy_138 hl (k := 5) rfl (by first | rfl | decide) (by decide) rfl (fun ls hl => ?_)
              refine lv_goto (tgt := 20) hx hb dX8_lossBy_141 (by decide) ?_
              have hP9 : va_P (dC, dI) vwCl [(m0, .inr (8, mdL AM z_13)), (AM 0, .inl (cY 0, 72, .inl tb)), (AM 2, .inl (cY 0, 22, .inl z_14)), (AM 3, .inl (cY 0, 22, .inl rd)), (AM 4, .inl (cY 0, 110, .inl kp)), (AM 5, .inl (cY 0, 8414, .inl td)), (AM 6, .inl (cY 0, 2, .inl wn)), (AM 13, .inl (cY 0, 4, .inl rw)), (AM 14, .inl (cY 0, 4, .inl br))] H := by exact hP
              have hD9 : va_D A [(m0, .inr (8, mdL AM z_13)), (AM 0, .inl (cY 0, 72, .inl tb)), (AM 2, .inl (cY 0, 22, .inl z_14)), (AM 3, .inl (cY 0, 22, .inl rd)), (AM 4, .inl (cY 0, 110, .inl kp)), (AM 5, .inl (cY 0, 8414, .inl td)), (AM 6, .inl (cY 0, 2, .inl wn)), (AM 13, .inl (cY 0, 4, .inl rw)), (AM 14, .inl (cY 0, 4, .inl br))] := by exact hD
              have hl9 : lv_has ls 8 [(0, .ref m0), (1, .int move), (2, .int by_), (3, .int guard), (4, .int (X8_lossBy_j136 tb by_ guard j move ph sA9)), (5, .int (nI (j + 1)))] := by rw [show nI (j + 1) = nI j + 1 from nI_succ _]; exact lv_sub hl [2, 3, 4, 5, 1, 0] rfl
              replace hk := hk (z_13, z_14, (X8_lossBy_j136 tb by_ guard j move ph sA9))
              (try dsimp only at hk)
              exact hk ⟨by rw [X8_los_it, ← hi.1]; simp only [X8_los_step, ← ez_2, ← ez_13, ← ez_14], hsz_14⟩ _ _ _ hP9 hD9 hS hl9
            · intro jn_16
              refine lv_if_ne (tgt := 134) hx hb dX8_lossBy_116 (by decide) (fun c_15 => ?_) (fun c_15 => ?_)
              · refine lv_iload hx hb dX8_lossBy_134 (lv_at hl 0 rfl) ?_
                have e_17 : (X8_lossBy_j136 tb by_ guard j move ph sA9) = (X8_lossBy_j93 ph sA9) := by rw [X8_lossBy_j136]; simp only [← ez_2, ← ez_13, ← ez_14, eq_false c_15, ↓reduceIte]
                refine W.eq (g2 := F0 m 136 ls [.int (X8_lossBy_j136 tb by_ guard j move ph sA9)]) (by simp only [e_17]) ?_
                exact jn_16 _ _ _ (by (try simp only [e_17]); exact hP) (by (try simp only [e_17]); exact hD) hS (by (try simp only [e_17]); exact (lv_sub hl [2, 3, 4, 5, 6] rfl))
              · refine lv_aload_n hx hb dX8_lossBy_119 rfl (lv_at hl 2 rfl) ?_
                refine va_get (D := (dC, dI)) (ci := 8) (v := .ref (AM 2)) (C := RX8) (T := TX8) (N := 17) hx hb hts inw_X8_lossBy_X8 hown hK hP 0 rfl rfl 2 (by decide) (hts (.fieldLink RX8 13 "DuelFramesModel" "s" "[I") (List.mem_of_getElem? (i := 1) rfl)) (fun _ h9 => h9) rfl dX8_lossBy_120 ?_
                refine lv_bipush (v := 14) hx hb dX8_lossBy_123 (by decide) ?_
                refine va_iald hx hb hK hP 2 0 rfl rfl (vin rfl) dX8_lossBy_125 ?_
                refine lv_topi (fun x_18 ex_18 => ?_)
                obtain rfl : x_18 = (z_14 14) := ex_18
                refine lv_iconst (v := 3) hx hb dX8_lossBy_126 (by decide) ?_
                refine lv_icmp_ne (tgt := 134) hx hb dX8_lossBy_127 (by decide) (fun c_19 => ?_) (fun c_19 => ?_)
                · refine lv_iload hx hb dX8_lossBy_134 (lv_at hl 0 rfl) ?_
                  have e_20 : (X8_lossBy_j136 tb by_ guard j move ph sA9) = (X8_lossBy_j93 ph sA9) := by rw [X8_lossBy_j136]; simp only [← ez_2, ← ez_13, ← ez_14, eq_true c_15, eq_false c_19, ↓reduceIte]
                  refine W.eq (g2 := F0 m 136 ls [.int (X8_lossBy_j136 tb by_ guard j move ph sA9)]) (by simp only [e_20]) ?_
                  exact jn_16 _ _ _ (by (try simp only [e_20]); exact hP) (by (try simp only [e_20]); exact hD) hS (by (try simp only [e_20]); exact (lv_sub hl [2, 3, 4, 5, 6] rfl))
                · refine lv_iconst (v := 1) hx hb dX8_lossBy_130 (by decide) ?_
                  refine lv_goto (tgt := 136) hx hb dX8_lossBy_131 (by decide) ?_
                  have e_21 : (X8_lossBy_j136 tb by_ guard j move ph sA9) = 1 := by rw [X8_lossBy_j136]; simp only [← ez_2, ← ez_13, ← ez_14, eq_true c_15, eq_true c_19, ↓reduceIte]
                  refine W.eq (g2 := F0 m 136 ls [.int (X8_lossBy_j136 tb by_ guard j move ph sA9)]) (by simp only [e_21]) ?_
                  exact jn_16 _ _ _ (by (try simp only [e_21]); exact hP) (by (try simp only [e_21]); exact hD) hS (by (try simp only [e_21]); exact (lv_sub hl [2, 3, 4, 5, 6] rfl))
          · intro jn_11
            refine lv_if_ne (tgt := 108) hx hb dX8_lossBy_98 (by decide) (fun c_10 => ?_) (fun c_10 => ?_)
            · refine lv_iload_n hx hb dX8_lossBy_108 rfl (lv_at hl 5 rfl) ?_
              have e_22 : (X8_lossBy_j109 guard j move) = guard := by rw [X8_lossBy_j109]; simp only [← ez_2, eq_false c_10, ↓reduceIte]
              refine W.eq (g2 := F0 m 109 ls [.int (X8_lossBy_j109 guard j move), .ref m0]) (by simp only [e_22]) ?_
              exact jn_11 _ _ _ (by (try simp only [e_22]); exact hP) (by (try simp only [e_22]); exact hD) hS (by (try simp only [e_22]); exact (lv_sub hl [0, 1, 2, 3, 4, 5, 6] rfl))
            · refine lv_bipush (v := 10) hx hb dX8_lossBy_101 (by decide) ?_
              refine lv_iload_n hx hb dX8_lossBy_103 rfl (lv_at hl 3 rfl) ?_
              refine lv_iadd hx hb dX8_lossBy_104 ?_
              refine lv_goto (tgt := 109) hx hb dX8_lossBy_105 (by decide) ?_
              have e_23 : (X8_lossBy_j109 guard j move) = (10 + move) := by rw [X8_lossBy_j109]; simp only [← ez_2, eq_true c_10, ↓reduceIte]
              refine W.eq (g2 := F0 m 109 ls [.int (X8_lossBy_j109 guard j move), .ref m0]) (by simp only [e_23]) ?_
              exact jn_11 _ _ _ (by (try simp only [e_23]); exact hP) (by (try simp only [e_23]); exact hD) hS (by (try simp only [e_23]); exact (lv_sub hl [0, 1, 2, 3, 4, 5, 6] rfl))
        · intro jn_9
          refine lv_if_eq (tgt := 91) hx hb dX8_lossBy_84 (by decide) (fun c_8 => ?_) (fun c_8 => ?_)
          · refine lv_iload hx hb dX8_lossBy_91 (lv_at hl 6 rfl) ?_
            have e_24 : (X8_lossBy_j93 ph sA9) = ph := by rw [X8_lossBy_j93]; simp only [← ez_2, eq_true c_8, ↓reduceIte]
            refine W.eq (g2 := F0 m 93 ls [.int (X8_lossBy_j93 ph sA9)]) (by simp only [e_24]) ?_
            exact jn_9 _ _ _ (by (try simp only [e_24]); exact hP) (by (try simp only [e_24]); exact hD) hS (by (try simp only [e_24]); exact (lv_sub hl [0, 2, 3, 4, 5, 7] rfl))
          · refine lv_iconst (v := 2) hx hb dX8_lossBy_87 (by decide) ?_
            refine lv_goto (tgt := 93) hx hb dX8_lossBy_88 (by decide) ?_
            have e_25 : (X8_lossBy_j93 ph sA9) = 2 := by rw [X8_lossBy_j93]; simp only [← ez_2, eq_false c_8, ↓reduceIte]
            refine W.eq (g2 := F0 m 93 ls [.int (X8_lossBy_j93 ph sA9)]) (by simp only [e_25]) ?_
            exact jn_9 _ _ _ (by (try simp only [e_25]); exact hP) (by (try simp only [e_25]); exact hD) hS (by (try simp only [e_25]); exact (lv_sub hl [0, 2, 3, 4, 5, 7] rfl))
      · intro jn_7
        refine lv_icmp_ne (tgt := 61) hx hb dX8_lossBy_54 (by decide) (fun c_6 => ?_) (fun c_6 => ?_)
        · refine lv_iload hx hb dX8_lossBy_61 (lv_at hl 0 rfl) ?_
          refine lv_if_eq (tgt := 73) hx hb dX8_lossBy_63 (by decide) (fun c_26 => ?_) (fun c_26 => ?_)
          · refine lv_aload_n hx hb dX8_lossBy_73 rfl (lv_at hl 1 rfl) ?_
            refine lv_iload_n hx hb dX8_lossBy_74 rfl (lv_at hl 2 rfl) ?_
            refine lv_iload hx hb dX8_lossBy_75 (lv_at hl 6 rfl) ?_
            refine vp_callSi (W.runV (As := [.int move, .int (nI j)]) (rest := []) ⟨hx, hb, hml, hown, hts⟩ (c_X8_blocking l dC dI cY m0 AM g9 tb sA9 rd kp td wn rw br move (nI j) hm) (cwV 2 hts gX8_lossBy_X8_blocking rfl rfl rfl (by decide +kernel) ⟨Nat.le_of_ble_eq_true rfl, Nat.le_of_ble_eq_true rfl⟩) ⟨blindR, va_recv hK hP (ci := 8) (q0 := 0) rfl rfl, fun U hU hW => ⟨rfl, rPre_of hP hK hN U hU hW⟩⟩ rfl rfl hl.1 rfl (lv_room (Nat.le_of_ble_eq_true rfl)) dX8_lossBy_77 ⟨Nat.zero_le _, Nat.zero_le _⟩) (fun r_27 hw => ?_)
            subst hw
            have e_28 : (X8_lossBy_j80 tb by_ j move ph sA9) = (X8_blocking_r tb (nI j) move) := by rw [X8_lossBy_j80]; simp only [← ez_2, eq_false c_6, eq_true c_26, ↓reduceIte]
            refine W.eq (g2 := F0 m 80 ls [.int (X8_lossBy_j80 tb by_ j move ph sA9)]) (by simp only [e_28]) ?_
            exact jn_7 _ _ _ (by (try simp only [e_28]); exact hP) (by (try simp only [e_28]); exact hD) hS (by (try simp only [e_28]); exact (lv_sub hl [0, 1, 2, 3, 4, 5, 6] rfl))
          · refine lv_bipush (v := 10) hx hb dX8_lossBy_66 (by decide) ?_
            refine lv_iload_n hx hb dX8_lossBy_68 rfl (lv_at hl 3 rfl) ?_
            refine lv_iadd hx hb dX8_lossBy_69 ?_
            refine lv_goto (tgt := 80) hx hb dX8_lossBy_70 (by decide) ?_
            have e_29 : (X8_lossBy_j80 tb by_ j move ph sA9) = (10 + by_) := by rw [X8_lossBy_j80]; simp only [← ez_2, eq_false c_6, eq_false c_26, ↓reduceIte]
            refine W.eq (g2 := F0 m 80 ls [.int (X8_lossBy_j80 tb by_ j move ph sA9)]) (by simp only [e_29]) ?_
            exact jn_7 _ _ _ (by (try simp only [e_29]); exact hP) (by (try simp only [e_29]); exact hD) hS (by (try simp only [e_29]); exact (lv_sub hl [0, 1, 2, 3, 4, 5, 6] rfl))
        · refine lv_iconst (v := 0) hx hb dX8_lossBy_57 (by decide) ?_
          refine lv_goto (tgt := 80) hx hb dX8_lossBy_58 (by decide) ?_
          have e_30 : (X8_lossBy_j80 tb by_ j move ph sA9) = 0 := by rw [X8_lossBy_j80]; simp only [← ez_2, eq_true c_6, ↓reduceIte]
          refine W.eq (g2 := F0 m 80 ls [.int (X8_lossBy_j80 tb by_ j move ph sA9)]) (by simp only [e_30]) ?_
          exact jn_7 _ _ _ (by (try simp only [e_30]); exact hP) (by (try simp only [e_30]); exact hD) hS (by (try simp only [e_30]); exact (lv_sub hl [0, 1, 2, 3, 4, 5, 6] rfl))
    · intro jn_5
      refine lv_icmp_ne (tgt := 48) hx hb dX8_lossBy_31 (by decide) (fun c_4 => ?_) (fun c_4 => ?_)
      · refine lv_iconst (v := 0) hx hb dX8_lossBy_48 (by decide) ?_
        have e_31 : (X8_lossBy_j49 ph sA9) = 0 := by rw [X8_lossBy_j49]; simp only [← ez_2, eq_false c_4, ↓reduceIte]
        refine W.eq (g2 := F0 m 49 ls [.int (X8_lossBy_j49 ph sA9)]) (by simp only [e_31]) ?_
        exact jn_5 _ _ _ (by (try simp only [e_31]); exact hP) (by (try simp only [e_31]); exact hD) hS (by (try simp only [e_31]); exact (lv_sub hl [0, 1, 2, 3, 4, 5] rfl))
      · refine lv_aload_n hx hb dX8_lossBy_34 rfl (lv_at hl 0 rfl) ?_
        refine va_get (D := (dC, dI)) (ci := 8) (v := .ref (AM 2)) (C := RX8) (T := TX8) (N := 17) hx hb hts inw_X8_lossBy_X8 hown hK hP 0 rfl rfl 2 (by decide) (hts (.fieldLink RX8 13 "DuelFramesModel" "s" "[I") (List.mem_of_getElem? (i := 1) rfl)) (fun _ h9 => h9) rfl dX8_lossBy_35 ?_
        refine lv_bipush (v := 14) hx hb dX8_lossBy_38 (by decide) ?_
        refine va_iald hx hb hK hP 2 0 rfl rfl (vin rfl) dX8_lossBy_40 ?_
        refine lv_topi (fun x_32 ex_32 => ?_)
        obtain rfl : x_32 = (sA9 14) := ex_32
        refine lv_if_ne (tgt := 48) hx hb dX8_lossBy_41 (by decide) (fun c_33 => ?_) (fun c_33 => ?_)
        · refine lv_iconst (v := 0) hx hb dX8_lossBy_48 (by decide) ?_
          have e_34 : (X8_lossBy_j49 ph sA9) = 0 := by rw [X8_lossBy_j49]; simp only [← ez_2, eq_true c_4, eq_false c_33, ↓reduceIte]
          refine W.eq (g2 := F0 m 49 ls [.int (X8_lossBy_j49 ph sA9)]) (by simp only [e_34]) ?_
          exact jn_5 _ _ _ (by (try simp only [e_34]); exact hP) (by (try simp only [e_34]); exact hD) hS (by (try simp only [e_34]); exact (lv_sub hl [0, 1, 2, 3, 4, 5] rfl))
        · refine lv_iconst (v := 1) hx hb dX8_lossBy_44 (by decide) ?_
          refine lv_goto (tgt := 49) hx hb dX8_lossBy_45 (by decide) ?_
          have e_35 : (X8_lossBy_j49 ph sA9) = 1 := by rw [X8_lossBy_j49]; simp only [← ez_2, eq_true c_4, eq_true c_33, ↓reduceIte]
          refine W.eq (g2 := F0 m 49 ls [.int (X8_lossBy_j49 ph sA9)]) (by simp only [e_35]) ?_
          exact jn_5 _ _ _ (by (try simp only [e_35]); exact hP) (by (try simp only [e_35]); exact hD) hS (by (try simp only [e_35]); exact (lv_sub hl [0, 1, 2, 3, 4, 5] rfl))
  · rintro ⟨g9, sA9, ph⟩ hi H locs ls hP hD hS hl
    (try dsimp only at hi)
    obtain ⟨hi, hs9⟩ := hi
    have q20_0 : g9 = (X8_los_it tb by_ guard move (g, z_2, 0) 200).1 := congrArg (fun z => z.1) hi
    have q20_1 : sA9 = (X8_los_it tb by_ guard move (g, z_2, 0) 200).2.1 := congrArg (fun z => z.2.1) hi
    have q20_2 : ph = (X8_los_it tb by_ guard move (g, z_2, 0) 200).2.2 := congrArg (fun z => z.2.2) hi
    have hP : va_P (dC, dI) vwCl [(m0, .inr (8, mdL AM g9)), (AM 0, .inl (cY 0, 72, .inl tb)), (AM 2, .inl (cY 0, 22, .inl sA9)), (AM 3, .inl (cY 0, 22, .inl rd)), (AM 4, .inl (cY 0, 110, .inl kp)), (AM 5, .inl (cY 0, 8414, .inl td)), (AM 6, .inl (cY 0, 2, .inl wn)), (AM 13, .inl (cY 0, 4, .inl rw)), (AM 14, .inl (cY 0, 4, .inl br))] H := hP
    have hD : va_D A [(m0, .inr (8, mdL AM g9)), (AM 0, .inl (cY 0, 72, .inl tb)), (AM 2, .inl (cY 0, 22, .inl sA9)), (AM 3, .inl (cY 0, 22, .inl rd)), (AM 4, .inl (cY 0, 110, .inl kp)), (AM 5, .inl (cY 0, 8414, .inl td)), (AM 6, .inl (cY 0, 2, .inl wn)), (AM 13, .inl (cY 0, 4, .inl rw)), (AM 14, .inl (cY 0, 4, .inl br))] := hD
    have hl : lv_has ls 8 [(0, .ref m0), (1, .int move), (2, .int by_), (3, .int guard), (4, .int ph), (5, .int 200)] := hl
    refine lv_iload hx hb dX8_lossBy_20 (lv_at hl 5 rfl) ?_
    refine lv_sipush (v := 200) hx hb dX8_lossBy_22 (by decide) ?_
    refine lv_icmp_ge (tgt := 144) hx hb dX8_lossBy_25 (by decide) (fun c_36 => ?_) (fun c_36 => ?_)
    rotate_left
    · exact absurd (by decide) c_36
    refine lv_iload hx hb dX8_lossBy_144 (lv_at hl 4 rfl) ?_
    refine lv_if_ne (tgt := 153) hx hb dX8_lossBy_146 (by decide) (fun c_37 => ?_) (fun c_37 => ?_)
    · refine lv_sipush (v := 1000) hx hb dX8_lossBy_153 (by decide) ?_
      refine lv_aload_n hx hb dX8_lossBy_156 rfl (lv_at hl 0 rfl) ?_
      refine va_get (D := (dC, dI)) (ci := 8) (v := .ref (AM 2)) (C := RX8) (T := TX8) (N := 17) hx hb hts inw_X8_lossBy_X8 hown hK hP 0 rfl rfl 2 (by decide) (hts (.fieldLink RX8 13 "DuelFramesModel" "s" "[I") (List.mem_of_getElem? (i := 1) rfl)) (fun _ h9 => h9) rfl dX8_lossBy_157 ?_
      refine lv_iconst (v := 1) hx hb dX8_lossBy_160 (by decide) ?_
      refine va_iald hx hb hK hP 2 0 rfl rfl (vin rfl) dX8_lossBy_161 ?_
      refine lv_topi (fun x_38 ex_38 => ?_)
      obtain rfl : x_38 = (sA9 1) := ex_38
      refine lv_isub hx hb dX8_lossBy_162 ?_
      have eo_39 : (X8_lossBy_r g tb sA by_ guard move) = (1000 - (sA9 1)) := by rw [X8_lossBy_r]; simp only [← ez_2, ← q20_0, ← q20_1, ← q20_2, eq_false c_37, ↓reduceIte]
      have eo_40 : (X8_lossBy_w0 g tb sA by_ guard move) = g9 := by rw [X8_lossBy_w0]; (try simp only [← ez_2, ← q20_0, ← q20_1, ← q20_2])
      have eo_41 : (X8_lossBy_w2 g tb sA by_ guard move) = sA9 := by rw [X8_lossBy_w2]; (try simp only [← ez_2, ← q20_0, ← q20_1, ← q20_2])
      have hP9 : va_P (dC, dI) vwCl [(m0, .inr (8, mdL AM (X8_lossBy_w0 g tb sA by_ guard move))), (AM 0, .inl (cY 0, 72, .inl tb)), (AM 2, .inl (cY 0, 22, .inl (X8_lossBy_w2 g tb sA by_ guard move))), (AM 3, .inl (cY 0, 22, .inl rd)), (AM 4, .inl (cY 0, 110, .inl kp)), (AM 5, .inl (cY 0, 8414, .inl td)), (AM 6, .inl (cY 0, 2, .inl wn)), (AM 13, .inl (cY 0, 4, .inl rw)), (AM 14, .inl (cY 0, 4, .inl br))] H := by simp only [eo_40, eo_41]; exact hP
      have hD9 : va_D A [(m0, .inr (8, mdL AM (X8_lossBy_w0 g tb sA by_ guard move))), (AM 0, .inl (cY 0, 72, .inl tb)), (AM 2, .inl (cY 0, 22, .inl (X8_lossBy_w2 g tb sA by_ guard move))), (AM 3, .inl (cY 0, 22, .inl rd)), (AM 4, .inl (cY 0, 110, .inl kp)), (AM 5, .inl (cY 0, 8414, .inl td)), (AM 6, .inl (cY 0, 2, .inl wn)), (AM 13, .inl (cY 0, 4, .inl rw)), (AM 14, .inl (cY 0, 4, .inl br))] := by simp only [eo_40, eo_41]; exact hD
      exact W.iret (v := (1000 - (sA9 1))) hx hb hr (fun t ht hW => ⟨⟨_, (), rfl, eo_39.symm, wPost_of hP9 hD9 ht⟩, hS.F ht⟩) hS.2.2 dX8_lossBy_163
    · refine lv_iconst (v := (-1)) hx hb dX8_lossBy_149 (by decide) ?_
      refine lv_goto (tgt := 163) hx hb dX8_lossBy_150 (by decide) ?_
      have eo_42 : (X8_lossBy_r g tb sA by_ guard move) = (-1) := by rw [X8_lossBy_r]; simp only [← ez_2, ← q20_0, ← q20_1, ← q20_2, eq_true c_37, ↓reduceIte]
      have eo_43 : (X8_lossBy_w0 g tb sA by_ guard move) = g9 := by rw [X8_lossBy_w0]; (try simp only [← ez_2, ← q20_0, ← q20_1, ← q20_2])
      have eo_44 : (X8_lossBy_w2 g tb sA by_ guard move) = sA9 := by rw [X8_lossBy_w2]; (try simp only [← ez_2, ← q20_0, ← q20_1, ← q20_2])
      have hP9 : va_P (dC, dI) vwCl [(m0, .inr (8, mdL AM (X8_lossBy_w0 g tb sA by_ guard move))), (AM 0, .inl (cY 0, 72, .inl tb)), (AM 2, .inl (cY 0, 22, .inl (X8_lossBy_w2 g tb sA by_ guard move))), (AM 3, .inl (cY 0, 22, .inl rd)), (AM 4, .inl (cY 0, 110, .inl kp)), (AM 5, .inl (cY 0, 8414, .inl td)), (AM 6, .inl (cY 0, 2, .inl wn)), (AM 13, .inl (cY 0, 4, .inl rw)), (AM 14, .inl (cY 0, 4, .inl br))] H := by simp only [eo_43, eo_44]; exact hP
      have hD9 : va_D A [(m0, .inr (8, mdL AM (X8_lossBy_w0 g tb sA by_ guard move))), (AM 0, .inl (cY 0, 72, .inl tb)), (AM 2, .inl (cY 0, 22, .inl (X8_lossBy_w2 g tb sA by_ guard move))), (AM 3, .inl (cY 0, 22, .inl rd)), (AM 4, .inl (cY 0, 110, .inl kp)), (AM 5, .inl (cY 0, 8414, .inl td)), (AM 6, .inl (cY 0, 2, .inl wn)), (AM 13, .inl (cY 0, 4, .inl rw)), (AM 14, .inl (cY 0, 4, .inl br))] := by simp only [eo_43, eo_44]; exact hD
      exact W.iret (v := (-1)) hx hb hr (fun t ht hW => ⟨⟨_, (), rfl, eo_42.symm, wPost_of hP9 hD9 ht⟩, hS.F ht⟩) hS.2.2 dX8_lossBy_163
theorem inw_X8_hits_X8 : ∀ w ∈ u_ws RX8 TX8 17, w ∈ wsX8_hits := fun _ h => List.mem_cons_of_mem _ (List.mem_append_right _ h)
def X8_hits_j44 (hb9 : Int32) (isF : Int32) (j : Nat) (move : Int32) : Int32 := (if hb9 = 0 then (if isF = 0 then (10 + move) else (if (nI j) ≤ 0 then (10 + move) else 0)) else 0)
def X8_hits_j65 (tb : Nat → Int32) (g9 : Nat → Int32) (hb9 : Int32) (isF : Int32) (j : Nat) (move : Int32) (sA9 : Nat → Int32) : Int32 := (if hb9 = 0 then (if ((X8_frame_w0 g9 tb sA9 (X8_hits_j44 hb9 isF j move) 0) 11) = 0 then 0 else 1) else 1)
def X8_hit_run (tb : Nat → Int32) (isF : Int32) (move : Int32) (cnt : Int32) : Nat → Nat → (Nat → Int32) × (Nat → Int32) × Int32 → Int32 × (Nat → Int32) × (Nat → Int32)
  | 0, _, (g9, sA9, _) => (0, g9, sA9)
  | n + 1, j, (g9, sA9, hb9) => if (X8_frame_w2 tb sA9 (X8_hits_j44 hb9 isF j move) 0) 17 = cnt then X8_hit_run tb isF move cnt n (j + 1) ((X8_frame_w0 g9 tb sA9 (X8_hits_j44 hb9 isF j move) 0), (X8_frame_w2 tb sA9 (X8_hits_j44 hb9 isF j move) 0), (X8_hits_j65 tb g9 hb9 isF j move sA9)) else ((if (X8_frame_w2 tb sA9 (X8_hits_j44 hb9 isF j move) 0) 17 ≤ cnt then 0 else 1), (X8_frame_w0 g9 tb sA9 (X8_hits_j44 hb9 isF j move) 0), (X8_frame_w2 tb sA9 (X8_hits_j44 hb9 isF j move) 0))
theorem X8_hit_run_s (tb : Nat → Int32) (isF : Int32) (move : Int32) (cnt : Int32) (n j : Nat) (g9 sA9 : Nat → Int32) (hb9 : Int32) : X8_hit_run tb isF move cnt (n + 1) j (g9, sA9, hb9) = if (X8_frame_w2 tb sA9 (X8_hits_j44 hb9 isF j move) 0) 17 = cnt then X8_hit_run tb isF move cnt n (j + 1) ((X8_frame_w0 g9 tb sA9 (X8_hits_j44 hb9 isF j move) 0), (X8_frame_w2 tb sA9 (X8_hits_j44 hb9 isF j move) 0), (X8_hits_j65 tb g9 hb9 isF j move sA9)) else ((if (X8_frame_w2 tb sA9 (X8_hits_j44 hb9 isF j move) 0) 17 ≤ cnt then 0 else 1), (X8_frame_w0 g9 tb sA9 (X8_hits_j44 hb9 isF j move) 0), (X8_frame_w2 tb sA9 (X8_hits_j44 hb9 isF j move) 0)) := rfl
set_option maxHeartbeats 4000000 in
set_option maxRecDepth 100000 in
theorem c_X8_hits (l : Launch) (dC : Nat → ClassId) (dI : Nat → Nat → Nat) (cY : Nat → ClassId) (m0 : Nat) (AM : Nat → Nat) (g : Nat → Int32) (tb : Nat → Int32) (sA : Nat → Int32) (rd : Nat → Int32) (kp : Nat → Int32) (td : Nat → Int32) (wn : Nat → Int32) (rw : Nat → Int32) (br : Nat → Int32) (move : Int32) (isF : Int32) (hs : okS sA) (hm : okM move) (sz : Nat) : Met l yX8_hits wsX8_hits ({ frames := 4, cells := 0, slots := 0, locals := 108 } : Room) (va_Pc [.ref m0, .int move, .int isF] (wPre (dC, dI) (tyL cY) [(m0, .inr (8, mdL AM g)), (AM 0, .inl (cY 0, 72, .inl tb)), (AM 2, .inl (cY 0, 22, .inl sA)), (AM 3, .inl (cY 0, 22, .inl rd)), (AM 4, .inl (cY 0, 110, .inl kp)), (AM 5, .inl (cY 0, 8414, .inl td)), (AM 6, .inl (cY 0, 2, .inl wn)), (AM 13, .inl (cY 0, 4, .inl rw)), (AM 14, .inl (cY 0, 4, .inl br))] sz)) (va_Qi (fun (r : Int32) (_ : Unit) => r = (X8_hit_run tb isF move (sA 17) 60 0 (g, sA, 0)).1 ∧ (r = 0 ∨ r = 1)) (wPost (dC, dI) [(m0, .inr (8, mdL AM (X8_hit_run tb isF move (sA 17) 60 0 (g, sA, 0)).2.1)), (AM 0, .inl (cY 0, 72, .inl tb)), (AM 2, .inl (cY 0, 22, .inl (X8_hit_run tb isF move (sA 17) 60 0 (g, sA, 0)).2.2)), (AM 3, .inl (cY 0, 22, .inl rd)), (AM 4, .inl (cY 0, 110, .inl kp)), (AM 5, .inl (cY 0, 8414, .inl td)), (AM 6, .inl (cY 0, 2, .inl wn)), (AM 13, .inl (cY 0, 4, .inl rw)), (AM 14, .inl (cY 0, 4, .inl br))] (va_A [(m0, .inr (8, mdL AM g)), (AM 0, .inl (cY 0, 72, .inl tb)), (AM 2, .inl (cY 0, 22, .inl sA)), (AM 3, .inl (cY 0, 22, .inl rd)), (AM 4, .inl (cY 0, 110, .inl kp)), (AM 5, .inl (cY 0, 8414, .inl td)), (AM 6, .inl (cY 0, 2, .inl wn)), (AM 13, .inl (cY 0, 4, .inl rw)), (AM 14, .inl (cY 0, 4, .inl br))] sz)) (va_A [(m0, .inr (8, mdL AM g)), (AM 0, .inl (cY 0, 72, .inl tb)), (AM 2, .inl (cY 0, 22, .inl sA)), (AM 3, .inl (cY 0, 22, .inl rd)), (AM 4, .inl (cY 0, 110, .inl kp)), (AM 5, .inl (cY 0, 8414, .inl td)), (AM 6, .inl (cY 0, 2, .inl wn)), (AM 13, .inl (cY 0, 4, .inl rw)), (AM 14, .inl (cY 0, 4, .inl br))] sz)) 0 0 (va_A [(m0, .inr (8, mdL AM g)), (AM 0, .inl (cY 0, 72, .inl tb)), (AM 2, .inl (cY 0, 22, .inl sA)), (AM 3, .inl (cY 0, 22, .inl rd)), (AM 4, .inl (cY 0, 110, .inl kp)), (AM 5, .inl (cY 0, 8414, .inl td)), (AM 6, .inl (cY 0, 2, .inl wn)), (AM 13, .inl (cY 0, 4, .inl rw)), (AM 14, .inl (cY 0, 4, .inl br))] sz) := by
  refine Met.ofW (cc := cX8_hits) (maxL := 6) (ret := (some .boolean)) (by decide) rfl ?_
  intro p e s m args below meth c s₁ B hml hv
  obtain ⟨rfl, hsz, hP, hK, hN, hD0⟩ := hv
  have hx := B.exec
  have hb := B.bytes
  have hr := B.returns
  have hts := atoms_spec (ws := wsX8_hits) B.pre
  have hown : s.vm.findClass RX8 = some m.cls := findClass_of_methodNamed B.named
  have hlocks := B.notSynchronized
  subst hsz
  have hD := hD0.self (sz := s.heap.size)
  generalize hAe : va_A [(m0, .inr (8, mdL AM g)), (AM 0, .inl (cY 0, 72, .inl tb)), (AM 2, .inl (cY 0, 22, .inl sA)), (AM 3, .inl (cY 0, 22, .inl rd)), (AM 4, .inl (cY 0, 110, .inl kp)), (AM 5, .inl (cY 0, 8414, .inl td)), (AM 6, .inl (cY 0, 2, .inl wn)), (AM 13, .inl (cY 0, 4, .inl rw)), (AM 14, .inl (cY 0, 4, .inl br))] s.heap.size = A at hD ⊢
  have hA : ∀ q : Nat, s.heap.size ≤ q → A q := fun q h => by rw [← hAe]; exact Or.inr h
  have hS : va_S A s.heap s.heap [] := va_S.rf
  have hP : va_P (dC, dI) vwCl [(m0, .inr (8, mdL AM g)), (AM 0, .inl (cY 0, 72, .inl tb)), (AM 2, .inl (cY 0, 22, .inl sA)), (AM 3, .inl (cY 0, 22, .inl rd)), (AM 4, .inl (cY 0, 110, .inl kp)), (AM 5, .inl (cY 0, 8414, .inl td)), (AM 6, .inl (cY 0, 2, .inl wn)), (AM 13, .inl (cY 0, 4, .inl rw)), (AM 14, .inl (cY 0, 4, .inl br))] s.heap := hP
  have hl := lv_entry ([.ref m0, .int move, .int isF]) (n := 6) (Nat.le_of_ble_eq_true rfl)
  rw [lg_entry_eq]
  generalize (lg_sl ([.ref m0, .int move, .int isF]) ++ List.replicate (6 - (lg_sl ([.ref m0, .int move, .int isF])).length) Slot.unset).toArray = ls at hl ⊢
  have hl : lv_has ls 6 [(0, .ref m0), (1, .int move), (2, .int isF)] := hl
  refine lv_aload_n hx hb dX8_hits_0 rfl (lv_at hl 0 rfl) ?_
  refine va_get (D := (dC, dI)) (ci := 8) (v := .ref (AM 2)) (C := RX8) (T := TX8) (N := 17) hx hb hts inw_X8_hits_X8 hown hK hP 0 rfl rfl 2 (by decide) (hts (.fieldLink RX8 13 "DuelFramesModel" "s" "[I") (List.mem_of_getElem? (i := 1) rfl)) (fun _ h9 => h9) rfl dX8_hits_1 ?_
  refine lv_bipush (v := 17) hx hb dX8_hits_4 (by decide) ?_
  refine va_iald hx hb hK hP 2 0 rfl rfl (vin rfl) dX8_hits_6 ?_
  refine lv_topi (fun x_1 ex_1 => ?_)
  obtain rfl : x_1 = (sA 17) := ex_1
  refine lv_istore_n (lv' := [(3, .int (sA 17)), (0, .ref m0), (1, .int move), (2, .int isF)]) hx hb dX8_hits_7 rfl hl (by decide) rfl (fun ls hl => ?_)
  refine lv_iconst (v := 0) hx hb dX8_hits_8 (by decide) ?_
  refine lv_istore (lv' := [(4, .int 0), (3, .int (sA 17)), (0, .ref m0), (1, .int move), (2, .int isF)]) hx hb dX8_hits_9 hl (by decide) rfl (fun ls hl => ?_)
  refine lv_iconst (v := 0) hx hb dX8_hits_11 (by decide) ?_
  refine lv_istore (lv' := [(5, .int 0), (4, .int 0), (3, .int (sA 17)), (0, .ref m0), (1, .int move), (2, .int isF)]) hx hb dX8_hits_12 hl (by decide) rfl (fun ls hl => ?_)
  refine loopI (D := (dC, dI)) (σ := (Nat → Int32) × (Nat → Int32) × Int32) 60 (fun j x => [(m0, .inr (8, mdL AM x.1)), (AM 0, .inl (cY 0, 72, .inl tb)), (AM 2, .inl (cY 0, 22, .inl x.2.1)), (AM 3, .inl (cY 0, 22, .inl rd)), (AM 4, .inl (cY 0, 110, .inl kp)), (AM 5, .inl (cY 0, 8414, .inl td)), (AM 6, .inl (cY 0, 2, .inl wn)), (AM 13, .inl (cY 0, 4, .inl rw)), (AM 14, .inl (cY 0, 4, .inl br))]) (fun j x => [(0, .ref m0), (1, .int move), (2, .int isF), (3, .int (sA 17)), (4, .int x.2.2), (5, .int (nI j))]) 14 6 (A := A) (H0 := s.heap) (fun j x => X8_hit_run tb isF move (sA 17) 60 0 (g, sA, 0) = X8_hit_run tb isF move (sA 17) (60 - j) j x ∧ okS x.2.1) ?_ ?_ (g, sA, 0) ⟨rfl, hs⟩ hP hD hS (lv_sub hl [3, 4, 5, 2, 1, 0] rfl)
  · rintro j ⟨g9, sA9, hb9⟩ hj hi H locs ls hP hD hS hl hk
    have hP : va_P (dC, dI) vwCl [(m0, .inr (8, mdL AM g9)), (AM 0, .inl (cY 0, 72, .inl tb)), (AM 2, .inl (cY 0, 22, .inl sA9)), (AM 3, .inl (cY 0, 22, .inl rd)), (AM 4, .inl (cY 0, 110, .inl kp)), (AM 5, .inl (cY 0, 8414, .inl td)), (AM 6, .inl (cY 0, 2, .inl wn)), (AM 13, .inl (cY 0, 4, .inl rw)), (AM 14, .inl (cY 0, 4, .inl br))] H := hP
    have hD : va_D A [(m0, .inr (8, mdL AM g9)), (AM 0, .inl (cY 0, 72, .inl tb)), (AM 2, .inl (cY 0, 22, .inl sA9)), (AM 3, .inl (cY 0, 22, .inl rd)), (AM 4, .inl (cY 0, 110, .inl kp)), (AM 5, .inl (cY 0, 8414, .inl td)), (AM 6, .inl (cY 0, 2, .inl wn)), (AM 13, .inl (cY 0, 4, .inl rw)), (AM 14, .inl (cY 0, 4, .inl br))] := hD
    have hl : lv_has ls 6 [(0, .ref m0), (1, .int move), (2, .int isF), (3, .int (sA 17)), (4, .int hb9), (5, .int (nI j))] := hl
    (try dsimp only at hi)
    have hs9 := hi.2
    refine lv_iload hx hb dX8_hits_14 (lv_at hl 5 rfl) ?_
    refine lv_bipush (v := 60) hx hb dX8_hits_16 (by decide) ?_
    refine lv_icmp_ge (tgt := 101) hx hb dX8_hits_18 (by decide) (fun c_2 => ?_) (fun c_2 => ?_)
    · exact absurd c_2 (nI_ge (b := 60) hj (by decide))
    refine lv_aload_n hx hb dX8_hits_21 rfl (lv_at hl 0 rfl) ?_
    refine lv_iload hx hb dX8_hits_22 (lv_at hl 4 rfl) ?_
    refine jnW (D := (dC, dI)) (ws := [(m0, .inr (8, mdL AM g9)), (AM 0, .inl (cY 0, 72, .inl tb)), (AM 2, .inl (cY 0, 22, .inl sA9)), (AM 3, .inl (cY 0, 22, .inl rd)), (AM 4, .inl (cY 0, 110, .inl kp)), (AM 5, .inl (cY 0, 8414, .inl td)), (AM 6, .inl (cY 0, 2, .inl wn)), (AM 13, .inl (cY 0, 4, .inl rw)), (AM 14, .inl (cY 0, 4, .inl br))]) (lv := [(0, .ref m0), (1, .int move), (2, .int isF), (3, .int (sA 17)), (4, .int hb9), (5, .int (nI j))]) (st := [.int (X8_hits_j44 hb9 isF j move), .ref m0]) (J := 44) (n := 6) (A := A) (H0 := s.heap) ?_ ?_
    · intro H locs ls hP hD hS hl
      refine lv_iconst (v := 0) hx hb dX8_hits_44 (by decide) ?_
      have hPc := hP.sub (ws' := [(m0, .inr (8, mdL AM g9)), (AM 0, .inl (cY 0, 72, .inl tb)), (AM 2, .inl (cY 0, 22, .inl sA9)), (AM 3, .inl (cY 0, 22, .inl rd)), (AM 4, .inl (cY 0, 110, .inl kp)), (AM 5, .inl (cY 0, 8414, .inl td)), (AM 6, .inl (cY 0, 2, .inl wn)), (AM 13, .inl (cY 0, 4, .inl rw)), (AM 14, .inl (cY 0, 4, .inl br))]) [0, 1, 2, 3, 4, 5, 6, 7, 8] rfl
      have hDc := hD.sub (ws' := [(m0, .inr (8, mdL AM g9)), (AM 0, .inl (cY 0, 72, .inl tb)), (AM 2, .inl (cY 0, 22, .inl sA9)), (AM 3, .inl (cY 0, 22, .inl rd)), (AM 4, .inl (cY 0, 110, .inl kp)), (AM 5, .inl (cY 0, 8414, .inl td)), (AM 6, .inl (cY 0, 2, .inl wn)), (AM 13, .inl (cY 0, 4, .inl rw)), (AM 14, .inl (cY 0, 4, .inl br))]) [0, 1, 2, 3, 4, 5, 6, 7, 8] (by decide) rfl
      have hFc := va_free (wc := [(m0, .inr (8, mdL AM g9)), (AM 0, .inl (cY 0, 72, .inl tb)), (AM 2, .inl (cY 0, 22, .inl sA9)), (AM 3, .inl (cY 0, 22, .inl rd)), (AM 4, .inl (cY 0, 110, .inl kp)), (AM 5, .inl (cY 0, 8414, .inl td)), (AM 6, .inl (cY 0, 2, .inl wn)), (AM 13, .inl (cY 0, 4, .inl rw)), (AM 14, .inl (cY 0, 4, .inl br))]) hD hS hA [0, 1, 2, 3, 4, 5, 6, 7, 8] rfl
      refine va_callv (va_runV (As := [.int (X8_hits_j44 hb9 isF j move), .int 0]) (rest := []) ⟨hx, hb, hml, hown, hts⟩ (c_X8_frame l dC dI cY m0 AM g9 tb sA9 rd kp td wn rw br (X8_hits_j44 hb9 isF j move) 0 hs9 (show okI (X8_hits_j44 hb9 isF j move) from by unfold X8_hits_j44; exact (okI_if (okI_if (okI_mv hm) (okI_if (okI_mv hm) (Or.inl (by decide)))) (Or.inl (by decide)))) (Or.inl (by decide)) H.size) (cwV 2 hts gX8_hits_X8_frame rfl rfl rfl (by decide +kernel) ⟨Nat.le_of_ble_eq_true rfl, Nat.le_of_ble_eq_true rfl⟩) ⟨blindW, va_recv hK hPc (ci := 8) (q0 := 0) rfl rfl, fun U hU hW => ⟨rfl, wPre_of hPc hK hN hDc U hU hW⟩⟩ rfl rfl hl.1 rfl (lv_room (Nat.le_of_ble_eq_true rfl)) dX8_hits_45 ⟨Nat.zero_le _, Nat.zero_le _⟩) hS (fun q _ h => hFc q h) hFc (fun u t H1 locs ht hvm hw hB hz1 hk1 hS1 => ?_)
      have hJ := wJoin (wr := []) (w1 := [(m0, .inr (8, mdL AM (X8_frame_w0 g9 tb sA9 (X8_hits_j44 hb9 isF j move) 0))), (AM 0, .inl (cY 0, 72, .inl tb)), (AM 2, .inl (cY 0, 22, .inl (X8_frame_w2 tb sA9 (X8_hits_j44 hb9 isF j move) 0))), (AM 3, .inl (cY 0, 22, .inl rd)), (AM 4, .inl (cY 0, 110, .inl kp)), (AM 5, .inl (cY 0, 8414, .inl td)), (AM 6, .inl (cY 0, 2, .inl wn)), (AM 13, .inl (cY 0, 4, .inl rw)), (AM 14, .inl (cY 0, 4, .inl br))]) (wn := [(m0, .inr (8, mdL AM (X8_frame_w0 g9 tb sA9 (X8_hits_j44 hb9 isF j move) 0))), (AM 0, .inl (cY 0, 72, .inl tb)), (AM 2, .inl (cY 0, 22, .inl (X8_frame_w2 tb sA9 (X8_hits_j44 hb9 isF j move) 0))), (AM 3, .inl (cY 0, 22, .inl rd)), (AM 4, .inl (cY 0, 110, .inl kp)), (AM 5, .inl (cY 0, 8414, .inl td)), (AM 6, .inl (cY 0, 2, .inl wn)), (AM 13, .inl (cY 0, 4, .inl rw)), (AM 14, .inl (cY 0, 4, .inl br))]) hP hD [0, 1, 2, 3, 4, 5, 6, 7, 8] [] rfl rfl (by decide) (by decide) hk1 hFc hB ht [0, 1, 2, 3, 4, 5, 6, 7, 8] rfl (by decide)
      clear hB hk1 hFc hPc hDc hP hD hS hz1 hvm ht t
      obtain ⟨hP1, hD1⟩ := hJ
      generalize H1 = H at hP1 hS1 ⊢
      have hP : va_P (dC, dI) vwCl [(m0, .inr (8, mdL AM (X8_frame_w0 g9 tb sA9 (X8_hits_j44 hb9 isF j move) 0))), (AM 0, .inl (cY 0, 72, .inl tb)), (AM 2, .inl (cY 0, 22, .inl (X8_frame_w2 tb sA9 (X8_hits_j44 hb9 isF j move) 0))), (AM 3, .inl (cY 0, 22, .inl rd)), (AM 4, .inl (cY 0, 110, .inl kp)), (AM 5, .inl (cY 0, 8414, .inl td)), (AM 6, .inl (cY 0, 2, .inl wn)), (AM 13, .inl (cY 0, 4, .inl rw)), (AM 14, .inl (cY 0, 4, .inl br))] H := hP1
      have hD : va_D A [(m0, .inr (8, mdL AM (X8_frame_w0 g9 tb sA9 (X8_hits_j44 hb9 isF j move) 0))), (AM 0, .inl (cY 0, 72, .inl tb)), (AM 2, .inl (cY 0, 22, .inl (X8_frame_w2 tb sA9 (X8_hits_j44 hb9 isF j move) 0))), (AM 3, .inl (cY 0, 22, .inl rd)), (AM 4, .inl (cY 0, 110, .inl kp)), (AM 5, .inl (cY 0, 8414, .inl td)), (AM 6, .inl (cY 0, 2, .inl wn)), (AM 13, .inl (cY 0, 4, .inl rw)), (AM 14, .inl (cY 0, 4, .inl br))] := hD1
      have hS := hS1
      clear hP1 hD1 hS1
      obtain ⟨z_6, ez_6⟩ : ∃ z, z = (X8_frame_w0 g9 tb sA9 (X8_hits_j44 hb9 isF j move) 0) := ⟨_, rfl⟩
      rw [← ez_6] at hP hD
      obtain ⟨z_7, ez_7⟩ : ∃ z, z = (X8_frame_w2 tb sA9 (X8_hits_j44 hb9 isF j move) 0) := ⟨_, rfl⟩
      rw [← ez_7] at hP hD
      have hsz_7 : okS z_7 := by rw [ez_7]; exact okS_fr hs9 (show okI (X8_hits_j44 hb9 isF j move) from by unfold X8_hits_j44; exact (okI_if (okI_if (okI_mv hm) (okI_if (okI_mv hm) (Or.inl (by decide)))) (Or.inl (by decide)))) (Or.inl (by decide))
      refine lv_iload hx hb dX8_hits_48 (lv_at hl 4 rfl) ?_
      refine jnW (D := (dC, dI)) (ws := [(m0, .inr (8, mdL AM z_6)), (AM 0, .inl (cY 0, 72, .inl tb)), (AM 2, .inl (cY 0, 22, .inl z_7)), (AM 3, .inl (cY 0, 22, .inl rd)), (AM 4, .inl (cY 0, 110, .inl kp)), (AM 5, .inl (cY 0, 8414, .inl td)), (AM 6, .inl (cY 0, 2, .inl wn)), (AM 13, .inl (cY 0, 4, .inl rw)), (AM 14, .inl (cY 0, 4, .inl br))]) (lv := [(0, .ref m0), (1, .int move), (2, .int isF), (3, .int (sA 17)), (5, .int (nI j))]) (st := [.int (X8_hits_j65 tb g9 hb9 isF j move sA9)]) (J := 65) (n := 6) (A := A) (H0 := s.heap) ?_ ?_
      · intro H locs ls hP hD hS hl
        refine lv_istore (lv' := [(4, .int (X8_hits_j65 tb g9 hb9 isF j move sA9)), (0, .ref m0), (1, .int move), (2, .int isF), (3, .int (sA 17)), (5, .int (nI j))]) hx hb dX8_hits_65 hl (by decide) rfl (fun ls hl => ?_)
        refine lv_aload_n hx hb dX8_hits_67 rfl (lv_at hl 1 rfl) ?_
        refine va_get (D := (dC, dI)) (ci := 8) (v := .ref (AM 2)) (C := RX8) (T := TX8) (N := 17) hx hb hts inw_X8_hits_X8 hown hK hP 0 rfl rfl 2 (by decide) (hts (.fieldLink RX8 13 "DuelFramesModel" "s" "[I") (List.mem_of_getElem? (i := 1) rfl)) (fun _ h9 => h9) rfl dX8_hits_68 ?_
        refine lv_bipush (v := 17) hx hb dX8_hits_71 (by decide) ?_
        refine va_iald hx hb hK hP 2 0 rfl rfl (vin rfl) dX8_hits_73 ?_
        refine lv_topi (fun x_10 ex_10 => ?_)
        obtain rfl : x_10 = (z_7 17) := ex_10
        refine lv_iload_n hx hb dX8_hits_74 rfl (lv_at hl 4 rfl) ?_
        refine lv_icmp_eq (tgt := 95) hx hb dX8_hits_75 (by decide) (fun c_11 => ?_) (fun c_11 => ?_)
        · refine lv_iinc (v := ((nI j) + 1)) (lv' := [(5, .int ((nI j) + 1)), (4, .int (X8_hits_j65 tb g9 hb9 isF j move sA9)), (0, .ref m0), (1, .int move), (2, .int isF), (3, .int (sA 17))]) hx hb dX8_hits_95 hl (k := 5) rfl (by first | rfl | decide) (by decide) rfl (fun ls hl => ?_)
          refine lv_goto (tgt := 14) hx hb dX8_hits_98 (by decide) ?_
          have hP9 : va_P (dC, dI) vwCl [(m0, .inr (8, mdL AM z_6)), (AM 0, .inl (cY 0, 72, .inl tb)), (AM 2, .inl (cY 0, 22, .inl z_7)), (AM 3, .inl (cY 0, 22, .inl rd)), (AM 4, .inl (cY 0, 110, .inl kp)), (AM 5, .inl (cY 0, 8414, .inl td)), (AM 6, .inl (cY 0, 2, .inl wn)), (AM 13, .inl (cY 0, 4, .inl rw)), (AM 14, .inl (cY 0, 4, .inl br))] H := by exact hP
          have hD9 : va_D A [(m0, .inr (8, mdL AM z_6)), (AM 0, .inl (cY 0, 72, .inl tb)), (AM 2, .inl (cY 0, 22, .inl z_7)), (AM 3, .inl (cY 0, 22, .inl rd)), (AM 4, .inl (cY 0, 110, .inl kp)), (AM 5, .inl (cY 0, 8414, .inl td)), (AM 6, .inl (cY 0, 2, .inl wn)), (AM 13, .inl (cY 0, 4, .inl rw)), (AM 14, .inl (cY 0, 4, .inl br))] := by exact hD
          have hl9 : lv_has ls 6 [(0, .ref m0), (1, .int move), (2, .int isF), (3, .int (sA 17)), (4, .int (X8_hits_j65 tb g9 hb9 isF j move sA9)), (5, .int (nI (j + 1)))] := by rw [show nI (j + 1) = nI j + 1 from nI_succ _]; exact lv_sub hl [2, 3, 4, 5, 1, 0] rfl
          replace hk := hk (z_6, z_7, (X8_hits_j65 tb g9 hb9 isF j move sA9))
          (try dsimp only at hk)
          exact hk ⟨by rw [hi.1, show 60 - j = (60 - (j + 1)) + 1 by omega, X8_hit_run_s]; simp only [← ez_6, ← ez_7, eq_true c_11, ↓reduceIte], hsz_7⟩ _ _ _ hP9 hD9 hS hl9
        · refine lv_aload_n hx hb dX8_hits_78 rfl (lv_at hl 1 rfl) ?_
          refine va_get (D := (dC, dI)) (ci := 8) (v := .ref (AM 2)) (C := RX8) (T := TX8) (N := 17) hx hb hts inw_X8_hits_X8 hown hK hP 0 rfl rfl 2 (by decide) (hts (.fieldLink RX8 13 "DuelFramesModel" "s" "[I") (List.mem_of_getElem? (i := 1) rfl)) (fun _ h9 => h9) rfl dX8_hits_79 ?_
          refine lv_bipush (v := 17) hx hb dX8_hits_82 (by decide) ?_
          refine va_iald hx hb hK hP 2 0 rfl rfl (vin rfl) dX8_hits_84 ?_
          refine lv_topi (fun x_12 ex_12 => ?_)
          obtain rfl : x_12 = (z_7 17) := ex_12
          refine lv_iload_n hx hb dX8_hits_85 rfl (lv_at hl 4 rfl) ?_
          refine lv_icmp_le (tgt := 93) hx hb dX8_hits_86 (by decide) (fun c_13 => ?_) (fun c_13 => ?_)
          · refine lv_iconst (v := 0) hx hb dX8_hits_93 (by decide) ?_
            have hr9 : X8_hit_run tb isF move (sA 17) 60 0 (g, sA, 0) = (0, z_6, z_7) := by rw [hi.1, show 60 - j = (60 - (j + 1)) + 1 by omega, X8_hit_run_s]; simp only [← ez_6, ← ez_7, eq_false c_11, eq_true c_13, ↓reduceIte]
            have eo_14 : (X8_hit_run tb isF move (sA 17) 60 0 (g, sA, 0)).1 = 0 := by have h9 := congrArg (fun z => z.1) hr9; dsimp only at h9; exact h9
            have eo_15 : (X8_hit_run tb isF move (sA 17) 60 0 (g, sA, 0)).2.1 = z_6 := by have h9 := congrArg (fun z => z.2.1) hr9; dsimp only at h9; exact h9
            have eo_16 : (X8_hit_run tb isF move (sA 17) 60 0 (g, sA, 0)).2.2 = z_7 := by have h9 := congrArg (fun z => z.2.2) hr9; dsimp only at h9; exact h9
            have hP9 : va_P (dC, dI) vwCl [(m0, .inr (8, mdL AM (X8_hit_run tb isF move (sA 17) 60 0 (g, sA, 0)).2.1)), (AM 0, .inl (cY 0, 72, .inl tb)), (AM 2, .inl (cY 0, 22, .inl (X8_hit_run tb isF move (sA 17) 60 0 (g, sA, 0)).2.2)), (AM 3, .inl (cY 0, 22, .inl rd)), (AM 4, .inl (cY 0, 110, .inl kp)), (AM 5, .inl (cY 0, 8414, .inl td)), (AM 6, .inl (cY 0, 2, .inl wn)), (AM 13, .inl (cY 0, 4, .inl rw)), (AM 14, .inl (cY 0, 4, .inl br))] H := by simp only [eo_15, eo_16]; exact hP
            have hD9 : va_D A [(m0, .inr (8, mdL AM (X8_hit_run tb isF move (sA 17) 60 0 (g, sA, 0)).2.1)), (AM 0, .inl (cY 0, 72, .inl tb)), (AM 2, .inl (cY 0, 22, .inl (X8_hit_run tb isF move (sA 17) 60 0 (g, sA, 0)).2.2)), (AM 3, .inl (cY 0, 22, .inl rd)), (AM 4, .inl (cY 0, 110, .inl kp)), (AM 5, .inl (cY 0, 8414, .inl td)), (AM 6, .inl (cY 0, 2, .inl wn)), (AM 13, .inl (cY 0, 4, .inl rw)), (AM 14, .inl (cY 0, 4, .inl br))] := by simp only [eo_15, eo_16]; exact hD
            exact W.zret (v := 0) (ty := .boolean) hx hb hr rfl (fun t ht hW => ⟨⟨_, (), rfl, ⟨eo_14.symm, (by decide)⟩, wPost_of hP9 hD9 ht⟩, hS.F ht⟩) hS.2.2 dX8_hits_94
          · refine lv_iconst (v := 1) hx hb dX8_hits_89 (by decide) ?_
            refine lv_goto (tgt := 94) hx hb dX8_hits_90 (by decide) ?_
            have hr9 : X8_hit_run tb isF move (sA 17) 60 0 (g, sA, 0) = (1, z_6, z_7) := by rw [hi.1, show 60 - j = (60 - (j + 1)) + 1 by omega, X8_hit_run_s]; simp only [← ez_6, ← ez_7, eq_false c_11, eq_false c_13, ↓reduceIte]
            have eo_17 : (X8_hit_run tb isF move (sA 17) 60 0 (g, sA, 0)).1 = 1 := by have h9 := congrArg (fun z => z.1) hr9; dsimp only at h9; exact h9
            have eo_18 : (X8_hit_run tb isF move (sA 17) 60 0 (g, sA, 0)).2.1 = z_6 := by have h9 := congrArg (fun z => z.2.1) hr9; dsimp only at h9; exact h9
            have eo_19 : (X8_hit_run tb isF move (sA 17) 60 0 (g, sA, 0)).2.2 = z_7 := by have h9 := congrArg (fun z => z.2.2) hr9; dsimp only at h9; exact h9
            have hP9 : va_P (dC, dI) vwCl [(m0, .inr (8, mdL AM (X8_hit_run tb isF move (sA 17) 60 0 (g, sA, 0)).2.1)), (AM 0, .inl (cY 0, 72, .inl tb)), (AM 2, .inl (cY 0, 22, .inl (X8_hit_run tb isF move (sA 17) 60 0 (g, sA, 0)).2.2)), (AM 3, .inl (cY 0, 22, .inl rd)), (AM 4, .inl (cY 0, 110, .inl kp)), (AM 5, .inl (cY 0, 8414, .inl td)), (AM 6, .inl (cY 0, 2, .inl wn)), (AM 13, .inl (cY 0, 4, .inl rw)), (AM 14, .inl (cY 0, 4, .inl br))] H := by simp only [eo_18, eo_19]; exact hP
            have hD9 : va_D A [(m0, .inr (8, mdL AM (X8_hit_run tb isF move (sA 17) 60 0 (g, sA, 0)).2.1)), (AM 0, .inl (cY 0, 72, .inl tb)), (AM 2, .inl (cY 0, 22, .inl (X8_hit_run tb isF move (sA 17) 60 0 (g, sA, 0)).2.2)), (AM 3, .inl (cY 0, 22, .inl rd)), (AM 4, .inl (cY 0, 110, .inl kp)), (AM 5, .inl (cY 0, 8414, .inl td)), (AM 6, .inl (cY 0, 2, .inl wn)), (AM 13, .inl (cY 0, 4, .inl rw)), (AM 14, .inl (cY 0, 4, .inl br))] := by simp only [eo_18, eo_19]; exact hD
            exact W.zret (v := 1) (ty := .boolean) hx hb hr rfl (fun t ht hW => ⟨⟨_, (), rfl, ⟨eo_17.symm, (by decide)⟩, wPost_of hP9 hD9 ht⟩, hS.F ht⟩) hS.2.2 dX8_hits_94
      · intro jn_9
        refine lv_if_ne (tgt := 60) hx hb dX8_hits_50 (by decide) (fun c_8 => ?_) (fun c_8 => ?_)
        · refine lv_iconst (v := 1) hx hb dX8_hits_60 (by decide) ?_
          refine lv_goto (tgt := 65) hx hb dX8_hits_61 (by decide) ?_
          have e_20 : (X8_hits_j65 tb g9 hb9 isF j move sA9) = 1 := by rw [X8_hits_j65]; simp only [← ez_6, ← ez_7, eq_false c_8, ↓reduceIte]
          refine W.eq (g2 := F0 m 65 ls [.int (X8_hits_j65 tb g9 hb9 isF j move sA9)]) (by simp only [e_20]) ?_
          exact jn_9 _ _ _ (by (try simp only [e_20]); exact hP) (by (try simp only [e_20]); exact hD) hS (by (try simp only [e_20]); exact (lv_sub hl [0, 1, 2, 3, 5] rfl))
        · refine lv_aload_n hx hb dX8_hits_53 rfl (lv_at hl 0 rfl) ?_
          refine va_get (D := (dC, dI)) (ci := 8) (v := .int (z_6 11)) (C := RX8) (T := TX8) (N := 17) hx hb hts inw_X8_hits_X8 hown hK hP 0 rfl rfl 11 (by decide) (hts (.fieldLink RX8 83 "DuelFramesModel" "began" "Z") (List.mem_of_getElem? (i := 2) rfl)) (fun _ h9 => h9) rfl dX8_hits_54 ?_
          refine lv_if_eq (tgt := 64) hx hb dX8_hits_57 (by decide) (fun c_21 => ?_) (fun c_21 => ?_)
          · refine lv_iconst (v := 0) hx hb dX8_hits_64 (by decide) ?_
            have e_22 : (X8_hits_j65 tb g9 hb9 isF j move sA9) = 0 := by rw [X8_hits_j65]; simp only [← ez_6, ← ez_7, eq_true c_8, eq_true c_21, ↓reduceIte]
            refine W.eq (g2 := F0 m 65 ls [.int (X8_hits_j65 tb g9 hb9 isF j move sA9)]) (by simp only [e_22]) ?_
            exact jn_9 _ _ _ (by (try simp only [e_22]); exact hP) (by (try simp only [e_22]); exact hD) hS (by (try simp only [e_22]); exact (lv_sub hl [0, 1, 2, 3, 5] rfl))
          · refine lv_iconst (v := 1) hx hb dX8_hits_60 (by decide) ?_
            refine lv_goto (tgt := 65) hx hb dX8_hits_61 (by decide) ?_
            have e_23 : (X8_hits_j65 tb g9 hb9 isF j move sA9) = 1 := by rw [X8_hits_j65]; simp only [← ez_6, ← ez_7, eq_true c_8, eq_false c_21, ↓reduceIte]
            refine W.eq (g2 := F0 m 65 ls [.int (X8_hits_j65 tb g9 hb9 isF j move sA9)]) (by simp only [e_23]) ?_
            exact jn_9 _ _ _ (by (try simp only [e_23]); exact hP) (by (try simp only [e_23]); exact hD) hS (by (try simp only [e_23]); exact (lv_sub hl [0, 1, 2, 3, 5] rfl))
    · intro jn_4
      refine lv_if_ne (tgt := 36) hx hb dX8_hits_24 (by decide) (fun c_3 => ?_) (fun c_3 => ?_)
      · refine lv_iconst (v := 0) hx hb dX8_hits_36 (by decide) ?_
        refine lv_goto (tgt := 44) hx hb dX8_hits_37 (by decide) ?_
        have e_24 : (X8_hits_j44 hb9 isF j move) = 0 := by rw [X8_hits_j44]; simp only [eq_false c_3, ↓reduceIte]
        refine W.eq (g2 := F0 m 44 ls [.int (X8_hits_j44 hb9 isF j move), .ref m0]) (by simp only [e_24]) ?_
        exact jn_4 _ _ _ (by (try simp only [e_24]); exact hP) (by (try simp only [e_24]); exact hD) hS (by (try simp only [e_24]); exact (lv_sub hl [0, 1, 2, 3, 4, 5] rfl))
      · refine lv_iload_n hx hb dX8_hits_27 rfl (lv_at hl 2 rfl) ?_
        refine lv_if_eq (tgt := 40) hx hb dX8_hits_28 (by decide) (fun c_25 => ?_) (fun c_25 => ?_)
        · refine lv_bipush (v := 10) hx hb dX8_hits_40 (by decide) ?_
          refine lv_iload_n hx hb dX8_hits_42 rfl (lv_at hl 1 rfl) ?_
          refine lv_iadd hx hb dX8_hits_43 ?_
          have e_26 : (X8_hits_j44 hb9 isF j move) = (10 + move) := by rw [X8_hits_j44]; simp only [eq_true c_3, eq_true c_25, ↓reduceIte]
          refine W.eq (g2 := F0 m 44 ls [.int (X8_hits_j44 hb9 isF j move), .ref m0]) (by simp only [e_26]) ?_
          exact jn_4 _ _ _ (by (try simp only [e_26]); exact hP) (by (try simp only [e_26]); exact hD) hS (by (try simp only [e_26]); exact (lv_sub hl [0, 1, 2, 3, 4, 5] rfl))
        · refine lv_iload hx hb dX8_hits_31 (lv_at hl 5 rfl) ?_
          refine lv_if_le (tgt := 40) hx hb dX8_hits_33 (by decide) (fun c_27 => ?_) (fun c_27 => ?_)
          · refine lv_bipush (v := 10) hx hb dX8_hits_40 (by decide) ?_
            refine lv_iload_n hx hb dX8_hits_42 rfl (lv_at hl 1 rfl) ?_
            refine lv_iadd hx hb dX8_hits_43 ?_
            have e_28 : (X8_hits_j44 hb9 isF j move) = (10 + move) := by rw [X8_hits_j44]; simp only [eq_true c_3, eq_false c_25, eq_true c_27, ↓reduceIte]
            refine W.eq (g2 := F0 m 44 ls [.int (X8_hits_j44 hb9 isF j move), .ref m0]) (by simp only [e_28]) ?_
            exact jn_4 _ _ _ (by (try simp only [e_28]); exact hP) (by (try simp only [e_28]); exact hD) hS (by (try simp only [e_28]); exact (lv_sub hl [0, 1, 2, 3, 4, 5] rfl))
          · refine lv_iconst (v := 0) hx hb dX8_hits_36 (by decide) ?_
            refine lv_goto (tgt := 44) hx hb dX8_hits_37 (by decide) ?_
            have e_29 : (X8_hits_j44 hb9 isF j move) = 0 := by rw [X8_hits_j44]; simp only [eq_true c_3, eq_false c_25, eq_false c_27, ↓reduceIte]
            refine W.eq (g2 := F0 m 44 ls [.int (X8_hits_j44 hb9 isF j move), .ref m0]) (by simp only [e_29]) ?_
            exact jn_4 _ _ _ (by (try simp only [e_29]); exact hP) (by (try simp only [e_29]); exact hD) hS (by (try simp only [e_29]); exact (lv_sub hl [0, 1, 2, 3, 4, 5] rfl))
  · rintro ⟨g9, sA9, hb9⟩ hi H locs ls hP hD hS hl
    (try dsimp only at hi)
    have hs9 := hi.2
    have hP : va_P (dC, dI) vwCl [(m0, .inr (8, mdL AM g9)), (AM 0, .inl (cY 0, 72, .inl tb)), (AM 2, .inl (cY 0, 22, .inl sA9)), (AM 3, .inl (cY 0, 22, .inl rd)), (AM 4, .inl (cY 0, 110, .inl kp)), (AM 5, .inl (cY 0, 8414, .inl td)), (AM 6, .inl (cY 0, 2, .inl wn)), (AM 13, .inl (cY 0, 4, .inl rw)), (AM 14, .inl (cY 0, 4, .inl br))] H := hP
    have hD : va_D A [(m0, .inr (8, mdL AM g9)), (AM 0, .inl (cY 0, 72, .inl tb)), (AM 2, .inl (cY 0, 22, .inl sA9)), (AM 3, .inl (cY 0, 22, .inl rd)), (AM 4, .inl (cY 0, 110, .inl kp)), (AM 5, .inl (cY 0, 8414, .inl td)), (AM 6, .inl (cY 0, 2, .inl wn)), (AM 13, .inl (cY 0, 4, .inl rw)), (AM 14, .inl (cY 0, 4, .inl br))] := hD
    have hl : lv_has ls 6 [(0, .ref m0), (1, .int move), (2, .int isF), (3, .int (sA 17)), (4, .int hb9), (5, .int 60)] := hl
    refine lv_iload hx hb dX8_hits_14 (lv_at hl 5 rfl) ?_
    refine lv_bipush (v := 60) hx hb dX8_hits_16 (by decide) ?_
    refine lv_icmp_ge (tgt := 101) hx hb dX8_hits_18 (by decide) (fun c_30 => ?_) (fun c_30 => ?_)
    rotate_left
    · exact absurd (by decide) c_30
    refine lv_iconst (v := 0) hx hb dX8_hits_101 (by decide) ?_
    have hr9 : X8_hit_run tb isF move (sA 17) 60 0 (g, sA, 0) = (0, g9, sA9) := hi.1
    have eo_31 : (X8_hit_run tb isF move (sA 17) 60 0 (g, sA, 0)).1 = 0 := by have h9 := congrArg (fun z => z.1) hr9; dsimp only at h9; exact h9
    have eo_32 : (X8_hit_run tb isF move (sA 17) 60 0 (g, sA, 0)).2.1 = g9 := by have h9 := congrArg (fun z => z.2.1) hr9; dsimp only at h9; exact h9
    have eo_33 : (X8_hit_run tb isF move (sA 17) 60 0 (g, sA, 0)).2.2 = sA9 := by have h9 := congrArg (fun z => z.2.2) hr9; dsimp only at h9; exact h9
    have hP9 : va_P (dC, dI) vwCl [(m0, .inr (8, mdL AM (X8_hit_run tb isF move (sA 17) 60 0 (g, sA, 0)).2.1)), (AM 0, .inl (cY 0, 72, .inl tb)), (AM 2, .inl (cY 0, 22, .inl (X8_hit_run tb isF move (sA 17) 60 0 (g, sA, 0)).2.2)), (AM 3, .inl (cY 0, 22, .inl rd)), (AM 4, .inl (cY 0, 110, .inl kp)), (AM 5, .inl (cY 0, 8414, .inl td)), (AM 6, .inl (cY 0, 2, .inl wn)), (AM 13, .inl (cY 0, 4, .inl rw)), (AM 14, .inl (cY 0, 4, .inl br))] H := by simp only [eo_32, eo_33]; exact hP
    have hD9 : va_D A [(m0, .inr (8, mdL AM (X8_hit_run tb isF move (sA 17) 60 0 (g, sA, 0)).2.1)), (AM 0, .inl (cY 0, 72, .inl tb)), (AM 2, .inl (cY 0, 22, .inl (X8_hit_run tb isF move (sA 17) 60 0 (g, sA, 0)).2.2)), (AM 3, .inl (cY 0, 22, .inl rd)), (AM 4, .inl (cY 0, 110, .inl kp)), (AM 5, .inl (cY 0, 8414, .inl td)), (AM 6, .inl (cY 0, 2, .inl wn)), (AM 13, .inl (cY 0, 4, .inl rw)), (AM 14, .inl (cY 0, 4, .inl br))] := by simp only [eo_32, eo_33]; exact hD
    exact W.zret (v := 0) (ty := .boolean) hx hb hr rfl (fun t ht hW => ⟨⟨_, (), rfl, ⟨eo_31.symm, (by decide)⟩, wPost_of hP9 hD9 ht⟩, hS.F ht⟩) hS.2.2 dX8_hits_102
