theorem inw_X7_move_X7 : ∀ w ∈ u_ws RX7 TX7 8, w ∈ wsX7_move := fun _ h => List.mem_cons_of_mem _ (List.mem_append_left _ (List.mem_append_left _ (List.mem_append_left _ (List.mem_append_left _ (List.mem_append_right _ h)))))
theorem inw_X7_move_X5 : ∀ w ∈ u_ws RX5 TX5 3, w ∈ wsX7_move := fun _ h => List.mem_cons_of_mem _ (List.mem_append_left _ (List.mem_append_left _ (List.mem_append_left _ (List.mem_append_right _ h))))
def X7_move_x (cnt : Int32) (go : Int32) (p0 : Int32) (p1 : Int32) (p2 : Int32) (p3 : Int32) (p4 : Int32) (p5 : Int32) : Int32 := (if (X7_needWithin_x 30 1 p0) = 0 then (if (X7_needWithin_x 10 1 p1) = 0 then (if (X7_needWithin_x 40 1 p2) = 0 then (if (X7_needWithin_x 150 1 p3) = 0 then (if (X7_needWithin_x 3 0 p4) = 0 then (if (X7_needWithin_x 200 1 p5) = 0 then (if (X7_needNoRound_x go) = 0 then (if cnt < 6 then 0 else 3) else (X7_needNoRound_x go)) else (X7_needWithin_x 200 1 p5)) else (X7_needWithin_x 3 0 p4)) else (X7_needWithin_x 150 1 p3)) else (X7_needWithin_x 40 1 p2)) else (X7_needWithin_x 10 1 p1)) else (X7_needWithin_x 30 1 p0))
set_option maxHeartbeats 4000000 in
set_option maxRecDepth 100000 in
theorem c_X7_move (l : Launch) (dC : Nat → ClassId) (dI : Nat → Nat → Nat) (cY : Nat → ClassId) (x0 : Nat) (qM : Nat) (qd : Nat) (qr_ : Nat) (qT : Nat) (qb : Nat) (qL : Nat) (go : Int32) (AD : Nat → Nat) (cnt : Int32) (MV : Nat → Nat → Int32) (p0 : Int32) (p1 : Int32) (p2 : Int32) (p3 : Int32) (p4 : Int32) (p5 : Int32) (hst : l.stackTraces = false)  (sz : Nat) : vx_Met l yX7_move wsX7_move ({ frames := 7, cells := 8, slots := 48, locals := 106 } : Room) (va_Pc [.ref x0, .int p0, .int p1, .int p2, .int p3, .int p4, .int p5] (xPre (dC, dI) (tyL cY) ([(x0, .inr (7, [.ref (AD 0), .ref qM, .ref qd, .ref qr_, .ref qT, .ref qb, .ref qL, .int go])), (AD 0, .inr (5, [.int cnt, .ref (AD 1), .ref (AD 8)])), (AD 1, .inl (cY 2, 6, .inr (.inr (.inr (.inr (fun j => some (AD (2 + j))))))))] ++ bkM AD cY MV) sz)) (va_Qi (fun (r : Int32) (_ : Unit) => (X7_move_x cnt go p0 p1 p2 p3 p4 p5) = 0 ∧ r = cnt) (wPost (dC, dI) ([(x0, .inr (7, [.ref (AD 0), .ref qM, .ref qd, .ref qr_, .ref qT, .ref qb, .ref qL, .int go])), (AD 0, .inr (5, [.int (cnt + 1), .ref (AD 1), .ref (AD 8)])), (AD 1, .inl (cY 2, 6, .inr (.inr (.inr (.inr (fun j => some (AD (2 + j))))))))] ++ bkM AD cY (mvS MV (mi cnt) (rowM p0 p1 p2 p3 p4 p5 (X4_make_w1 (fun k => (MV (mi cnt)) (6 + k))) (fun k => (MV (mi cnt)) (11 + k))))) (va_A ([(x0, .inr (7, [.ref (AD 0), .ref qM, .ref qd, .ref qr_, .ref qT, .ref qb, .ref qL, .int go])), (AD 0, .inr (5, [.int cnt, .ref (AD 1), .ref (AD 8)])), (AD 1, .inl (cY 2, 6, .inr (.inr (.inr (.inr (fun j => some (AD (2 + j))))))))] ++ bkM AD cY MV) sz)) (va_A ([(x0, .inr (7, [.ref (AD 0), .ref qM, .ref qd, .ref qr_, .ref qT, .ref qb, .ref qL, .int go])), (AD 0, .inr (5, [.int cnt, .ref (AD 1), .ref (AD 8)])), (AD 1, .inl (cY 2, 6, .inr (.inr (.inr (.inr (fun j => some (AD (2 + j))))))))] ++ bkM AD cY MV) sz)) (vx_X (fun _ : Unit => ¬ (X7_move_x cnt go p0 p1 p2 p3 p4 p5) = 0) (xPost (dC, dI) ([(x0, .inr (7, [.ref (AD 0), .ref qM, .ref qd, .ref qr_, .ref qT, .ref qb, .ref qL, .int go])), (AD 0, .inr (5, [.int cnt, .ref (AD 1), .ref (AD 8)])), (AD 1, .inl (cY 2, 6, .inr (.inr (.inr (.inr (fun j => some (AD (2 + j))))))))] ++ bkM AD cY MV) (va_A ([(x0, .inr (7, [.ref (AD 0), .ref qM, .ref qd, .ref qr_, .ref qT, .ref qb, .ref qL, .int go])), (AD 0, .inr (5, [.int cnt, .ref (AD 1), .ref (AD 8)])), (AD 1, .inl (cY 2, 6, .inr (.inr (.inr (.inr (fun j => some (AD (2 + j))))))))] ++ bkM AD cY MV) sz) (X7_move_x cnt go p0 p1 p2 p3 p4 p5)) (va_A ([(x0, .inr (7, [.ref (AD 0), .ref qM, .ref qd, .ref qr_, .ref qT, .ref qb, .ref qL, .int go])), (AD 0, .inr (5, [.int cnt, .ref (AD 1), .ref (AD 8)])), (AD 1, .inl (cY 2, 6, .inr (.inr (.inr (.inr (fun j => some (AD (2 + j))))))))] ++ bkM AD cY MV) sz)) 8 48 (va_A ([(x0, .inr (7, [.ref (AD 0), .ref qM, .ref qd, .ref qr_, .ref qT, .ref qb, .ref qL, .int go])), (AD 0, .inr (5, [.int cnt, .ref (AD 1), .ref (AD 8)])), (AD 1, .inl (cY 2, 6, .inr (.inr (.inr (.inr (fun j => some (AD (2 + j))))))))] ++ bkM AD cY MV) sz) := by
  refine vx_ofW (cc := cX7_move) (maxL := 8) (ret := (some .int)) (by decide) rfl ?_
  intro p e s m args below meth c s₁ B hml ht0 hv
  obtain ⟨rfl, hsz, hP, hK, hN, hD0, xn, xt, xz⟩ := hv
  have hx := B.exec
  have hb := B.bytes
  have hr := B.returns
  have hts := atoms_spec (ws := wsX7_move) B.pre
  have hown : s.vm.findClass RX7 = some m.cls := findClass_of_methodNamed B.named
  have hlocks := B.notSynchronized
  subst hsz
  have hD := hD0.self (sz := s.heap.size)
  generalize hAe : va_A ([(x0, .inr (7, [.ref (AD 0), .ref qM, .ref qd, .ref qr_, .ref qT, .ref qb, .ref qL, .int go])), (AD 0, .inr (5, [.int cnt, .ref (AD 1), .ref (AD 8)])), (AD 1, .inl (cY 2, 6, .inr (.inr (.inr (.inr (fun j => some (AD (2 + j))))))))] ++ bkM AD cY MV) s.heap.size = A at hD xz ⊢
  have hA : ∀ q : Nat, s.heap.size ≤ q → A q := fun q h => by rw [← hAe]; exact Or.inr h
  have hS : va_S A s.heap s.heap [] := va_S.rf
  have hP : va_P (dC, dI) vwCl ([(x0, .inr (7, [.ref (AD 0), .ref qM, .ref qd, .ref qr_, .ref qT, .ref qb, .ref qL, .int go])), (AD 0, .inr (5, [.int cnt, .ref (AD 1), .ref (AD 8)])), (AD 1, .inl (cY 2, 6, .inr (.inr (.inr (.inr (fun j => some (AD (2 + j))))))))] ++ bkM AD cY MV) s.heap := hP
  have hl := lv_entry ([.ref x0, .int p0, .int p1, .int p2, .int p3, .int p4, .int p5]) (n := 8) (Nat.le_of_ble_eq_true rfl)
  rw [lg_entry_eq]
  generalize (lg_sl ([.ref x0, .int p0, .int p1, .int p2, .int p3, .int p4, .int p5]) ++ List.replicate (8 - (lg_sl ([.ref x0, .int p0, .int p1, .int p2, .int p3, .int p4, .int p5])).length) Slot.unset).toArray = ls at hl ⊢
  have hl : lv_has ls 8 [(0, .ref x0), (1, .int p0), (2, .int p1), (3, .int p2), (4, .int p3), (5, .int p4), (6, .int p5)] := hl
  refine lv_iload_n hx hb dX7_move_0 rfl (lv_at hl 1 rfl) ?_
  refine lv_iconst (v := 1) hx hb dX7_move_1 (by decide) ?_
  refine lv_bipush (v := 30) hx hb dX7_move_2 (by decide) ?_
  have hPc := hP.sub (ws' := []) [] rfl
  have hDc := hD.sub (ws' := []) [] (by decide) rfl
  have hFc := va_free (wc := []) hD hS hA [] rfl
  refine vx_callv (vx_runS (As := [.int p0, .int 1, .int 30]) (rest := []) ⟨hx, hb, hml, hown, hts⟩ (c_X7_needWithin l dC dI cY p0 1 30 hst s.heap.size) (va_cwS 3 hts gX7_move_X7_needWithin rfl rfl rfl (by decide +kernel) ⟨Nat.le_of_ble_eq_true rfl, Nat.le_of_ble_eq_true rfl⟩) ⟨blindX, fun U hU hW => ⟨rfl, xPre_of hPc hK hN hDc xn xt xz hS hFc U hU hW⟩⟩ rfl rfl hl.1 rfl (lv_room (Nat.le_of_ble_eq_true rfl)) dX7_move_4 ⟨Nat.le_of_ble_eq_true rfl, Nat.le_of_ble_eq_true rfl⟩) hS (fun q _ h => hFc q h) hFc (fun q _ h => hFc q h) (fun E9 ce9 q9 u t H1 locs1 ht hvm c_1 hB hz1 hk1 hS1 hce hcv hcl => ?_) (fun u t H1 locs ht hvm c_1 hB hz1 hk1 hS1 => ?_)
  · obtain ⟨hE9, hB⟩ := hB
    have hB : wPost (dC, dI) [] (va_A [] s.heap.size) () t := hB
    have hJ := wJoinQ (wr := [(x0, .inr (7, [.ref (AD 0), .ref qM, .ref qd, .ref qr_, .ref qT, .ref qb, .ref qL, .int go])), (AD 0, .inr (5, [.int cnt, .ref (AD 1), .ref (AD 8)])), (AD 1, .inl (cY 2, 6, .inr (.inr (.inr (.inr (fun j => some (AD (2 + j))))))))]) (w1 := []) (wn := [(x0, .inr (7, [.ref (AD 0), .ref qM, .ref qd, .ref qr_, .ref qT, .ref qb, .ref qL, .int go])), (AD 0, .inr (5, [.int cnt, .ref (AD 1), .ref (AD 8)])), (AD 1, .inl (cY 2, 6, .inr (.inr (.inr (.inr (fun j => some (AD (2 + j))))))))]) hP hD [] [0, 1, 2] rfl rfl (by decide) (by decide) hk1 hFc hB ht [0, 1, 2] rfl (by decide)
    obtain ⟨hP9, hD9⟩ := hJ
    have hx9 : (X7_move_x cnt go p0 p1 p2 p3 p4 p5) = (X7_needWithin_x 30 1 p0) := by rw [X7_move_x, if_neg c_1]
    exact vx_out (fun x h => (ht0 x h).elim) hlocks hce hcv hcl (fun t9 ht9 hW9 => ⟨(), by rw [hx9]; exact c_1, ⟨by rw [hx9]; exact hE9, by rw [ht9]; exact hP9, hD9⟩, hS1.F ht9⟩) hS1.2.2 (Nat.le_of_ble_eq_true rfl) (Nat.le_of_ble_eq_true rfl)
  have hJ := wJoinQ (wr := [(x0, .inr (7, [.ref (AD 0), .ref qM, .ref qd, .ref qr_, .ref qT, .ref qb, .ref qL, .int go])), (AD 0, .inr (5, [.int cnt, .ref (AD 1), .ref (AD 8)])), (AD 1, .inl (cY 2, 6, .inr (.inr (.inr (.inr (fun j => some (AD (2 + j))))))))]) (w1 := []) (wn := [(x0, .inr (7, [.ref (AD 0), .ref qM, .ref qd, .ref qr_, .ref qT, .ref qb, .ref qL, .int go])), (AD 0, .inr (5, [.int cnt, .ref (AD 1), .ref (AD 8)])), (AD 1, .inl (cY 2, 6, .inr (.inr (.inr (.inr (fun j => some (AD (2 + j))))))))]) hP hD [] [0, 1, 2] rfl rfl (by decide) (by decide) hk1 hFc hB ht [0, 1, 2] rfl (by decide)
  clear hB hk1 hFc hPc hDc hP hD hS hz1 hvm ht t
  obtain ⟨hP1, hD1⟩ := hJ
  generalize H1 = H at hP1 hS1 ⊢
  have hP : va_P (dC, dI) vwCl ([(x0, .inr (7, [.ref (AD 0), .ref qM, .ref qd, .ref qr_, .ref qT, .ref qb, .ref qL, .int go])), (AD 0, .inr (5, [.int cnt, .ref (AD 1), .ref (AD 8)])), (AD 1, .inl (cY 2, 6, .inr (.inr (.inr (.inr (fun j => some (AD (2 + j))))))))] ++ bkM AD cY MV) H := hP1
  have hD : va_D A ([(x0, .inr (7, [.ref (AD 0), .ref qM, .ref qd, .ref qr_, .ref qT, .ref qb, .ref qL, .int go])), (AD 0, .inr (5, [.int cnt, .ref (AD 1), .ref (AD 8)])), (AD 1, .inl (cY 2, 6, .inr (.inr (.inr (.inr (fun j => some (AD (2 + j))))))))] ++ bkM AD cY MV) := hD1
  have hS := hS1
  clear hP1 hD1 hS1
  refine lv_iload_n hx hb dX7_move_7 rfl (lv_at hl 2 rfl) ?_
  refine lv_iconst (v := 1) hx hb dX7_move_8 (by decide) ?_
  refine lv_bipush (v := 10) hx hb dX7_move_9 (by decide) ?_
  have hPc := hP.sub (ws' := []) [] rfl
  have hDc := hD.sub (ws' := []) [] (by decide) rfl
  have hFc := va_free (wc := []) hD hS hA [] rfl
  refine vx_callv (vx_runS (As := [.int p1, .int 1, .int 10]) (rest := []) ⟨hx, hb, hml, hown, hts⟩ (c_X7_needWithin l dC dI cY p1 1 10 hst H.size) (va_cwS 3 hts gX7_move_X7_needWithin rfl rfl rfl (by decide +kernel) ⟨Nat.le_of_ble_eq_true rfl, Nat.le_of_ble_eq_true rfl⟩) ⟨blindX, fun U hU hW => ⟨rfl, xPre_of hPc hK hN hDc xn xt xz hS hFc U hU hW⟩⟩ rfl rfl hl.1 rfl (lv_room (Nat.le_of_ble_eq_true rfl)) dX7_move_11 ⟨Nat.le_of_ble_eq_true rfl, Nat.le_of_ble_eq_true rfl⟩) hS (fun q _ h => hFc q h) hFc (fun q _ h => hFc q h) (fun E9 ce9 q9 u t H1 locs1 ht hvm c_2 hB hz1 hk1 hS1 hce hcv hcl => ?_) (fun u t H1 locs ht hvm c_2 hB hz1 hk1 hS1 => ?_)
  · obtain ⟨hE9, hB⟩ := hB
    have hB : wPost (dC, dI) [] (va_A [] H.size) () t := hB
    have hJ := wJoinQ (wr := [(x0, .inr (7, [.ref (AD 0), .ref qM, .ref qd, .ref qr_, .ref qT, .ref qb, .ref qL, .int go])), (AD 0, .inr (5, [.int cnt, .ref (AD 1), .ref (AD 8)])), (AD 1, .inl (cY 2, 6, .inr (.inr (.inr (.inr (fun j => some (AD (2 + j))))))))]) (w1 := []) (wn := [(x0, .inr (7, [.ref (AD 0), .ref qM, .ref qd, .ref qr_, .ref qT, .ref qb, .ref qL, .int go])), (AD 0, .inr (5, [.int cnt, .ref (AD 1), .ref (AD 8)])), (AD 1, .inl (cY 2, 6, .inr (.inr (.inr (.inr (fun j => some (AD (2 + j))))))))]) hP hD [] [0, 1, 2] rfl rfl (by decide) (by decide) hk1 hFc hB ht [0, 1, 2] rfl (by decide)
    obtain ⟨hP9, hD9⟩ := hJ
    have hx9 : (X7_move_x cnt go p0 p1 p2 p3 p4 p5) = (X7_needWithin_x 10 1 p1) := by rw [X7_move_x, if_pos c_1, if_neg c_2]
    exact vx_out (fun x h => (ht0 x h).elim) hlocks hce hcv hcl (fun t9 ht9 hW9 => ⟨(), by rw [hx9]; exact c_2, ⟨by rw [hx9]; exact hE9, by rw [ht9]; exact hP9, hD9⟩, hS1.F ht9⟩) hS1.2.2 (Nat.le_of_ble_eq_true rfl) (Nat.le_of_ble_eq_true rfl)
  have hJ := wJoinQ (wr := [(x0, .inr (7, [.ref (AD 0), .ref qM, .ref qd, .ref qr_, .ref qT, .ref qb, .ref qL, .int go])), (AD 0, .inr (5, [.int cnt, .ref (AD 1), .ref (AD 8)])), (AD 1, .inl (cY 2, 6, .inr (.inr (.inr (.inr (fun j => some (AD (2 + j))))))))]) (w1 := []) (wn := [(x0, .inr (7, [.ref (AD 0), .ref qM, .ref qd, .ref qr_, .ref qT, .ref qb, .ref qL, .int go])), (AD 0, .inr (5, [.int cnt, .ref (AD 1), .ref (AD 8)])), (AD 1, .inl (cY 2, 6, .inr (.inr (.inr (.inr (fun j => some (AD (2 + j))))))))]) hP hD [] [0, 1, 2] rfl rfl (by decide) (by decide) hk1 hFc hB ht [0, 1, 2] rfl (by decide)
  clear hB hk1 hFc hPc hDc hP hD hS hz1 hvm ht t
  obtain ⟨hP1, hD1⟩ := hJ
  generalize H1 = H at hP1 hS1 ⊢
  have hP : va_P (dC, dI) vwCl ([(x0, .inr (7, [.ref (AD 0), .ref qM, .ref qd, .ref qr_, .ref qT, .ref qb, .ref qL, .int go])), (AD 0, .inr (5, [.int cnt, .ref (AD 1), .ref (AD 8)])), (AD 1, .inl (cY 2, 6, .inr (.inr (.inr (.inr (fun j => some (AD (2 + j))))))))] ++ bkM AD cY MV) H := hP1
  have hD : va_D A ([(x0, .inr (7, [.ref (AD 0), .ref qM, .ref qd, .ref qr_, .ref qT, .ref qb, .ref qL, .int go])), (AD 0, .inr (5, [.int cnt, .ref (AD 1), .ref (AD 8)])), (AD 1, .inl (cY 2, 6, .inr (.inr (.inr (.inr (fun j => some (AD (2 + j))))))))] ++ bkM AD cY MV) := hD1
  have hS := hS1
  clear hP1 hD1 hS1
  refine lv_iload_n hx hb dX7_move_14 rfl (lv_at hl 3 rfl) ?_
  refine lv_iconst (v := 1) hx hb dX7_move_15 (by decide) ?_
  refine lv_bipush (v := 40) hx hb dX7_move_16 (by decide) ?_
  have hPc := hP.sub (ws' := []) [] rfl
  have hDc := hD.sub (ws' := []) [] (by decide) rfl
  have hFc := va_free (wc := []) hD hS hA [] rfl
  refine vx_callv (vx_runS (As := [.int p2, .int 1, .int 40]) (rest := []) ⟨hx, hb, hml, hown, hts⟩ (c_X7_needWithin l dC dI cY p2 1 40 hst H.size) (va_cwS 3 hts gX7_move_X7_needWithin rfl rfl rfl (by decide +kernel) ⟨Nat.le_of_ble_eq_true rfl, Nat.le_of_ble_eq_true rfl⟩) ⟨blindX, fun U hU hW => ⟨rfl, xPre_of hPc hK hN hDc xn xt xz hS hFc U hU hW⟩⟩ rfl rfl hl.1 rfl (lv_room (Nat.le_of_ble_eq_true rfl)) dX7_move_18 ⟨Nat.le_of_ble_eq_true rfl, Nat.le_of_ble_eq_true rfl⟩) hS (fun q _ h => hFc q h) hFc (fun q _ h => hFc q h) (fun E9 ce9 q9 u t H1 locs1 ht hvm c_3 hB hz1 hk1 hS1 hce hcv hcl => ?_) (fun u t H1 locs ht hvm c_3 hB hz1 hk1 hS1 => ?_)
  · obtain ⟨hE9, hB⟩ := hB
    have hB : wPost (dC, dI) [] (va_A [] H.size) () t := hB
    have hJ := wJoinQ (wr := [(x0, .inr (7, [.ref (AD 0), .ref qM, .ref qd, .ref qr_, .ref qT, .ref qb, .ref qL, .int go])), (AD 0, .inr (5, [.int cnt, .ref (AD 1), .ref (AD 8)])), (AD 1, .inl (cY 2, 6, .inr (.inr (.inr (.inr (fun j => some (AD (2 + j))))))))]) (w1 := []) (wn := [(x0, .inr (7, [.ref (AD 0), .ref qM, .ref qd, .ref qr_, .ref qT, .ref qb, .ref qL, .int go])), (AD 0, .inr (5, [.int cnt, .ref (AD 1), .ref (AD 8)])), (AD 1, .inl (cY 2, 6, .inr (.inr (.inr (.inr (fun j => some (AD (2 + j))))))))]) hP hD [] [0, 1, 2] rfl rfl (by decide) (by decide) hk1 hFc hB ht [0, 1, 2] rfl (by decide)
    obtain ⟨hP9, hD9⟩ := hJ
    have hx9 : (X7_move_x cnt go p0 p1 p2 p3 p4 p5) = (X7_needWithin_x 40 1 p2) := by rw [X7_move_x, if_pos c_1, if_pos c_2, if_neg c_3]
    exact vx_out (fun x h => (ht0 x h).elim) hlocks hce hcv hcl (fun t9 ht9 hW9 => ⟨(), by rw [hx9]; exact c_3, ⟨by rw [hx9]; exact hE9, by rw [ht9]; exact hP9, hD9⟩, hS1.F ht9⟩) hS1.2.2 (Nat.le_of_ble_eq_true rfl) (Nat.le_of_ble_eq_true rfl)
  have hJ := wJoinQ (wr := [(x0, .inr (7, [.ref (AD 0), .ref qM, .ref qd, .ref qr_, .ref qT, .ref qb, .ref qL, .int go])), (AD 0, .inr (5, [.int cnt, .ref (AD 1), .ref (AD 8)])), (AD 1, .inl (cY 2, 6, .inr (.inr (.inr (.inr (fun j => some (AD (2 + j))))))))]) (w1 := []) (wn := [(x0, .inr (7, [.ref (AD 0), .ref qM, .ref qd, .ref qr_, .ref qT, .ref qb, .ref qL, .int go])), (AD 0, .inr (5, [.int cnt, .ref (AD 1), .ref (AD 8)])), (AD 1, .inl (cY 2, 6, .inr (.inr (.inr (.inr (fun j => some (AD (2 + j))))))))]) hP hD [] [0, 1, 2] rfl rfl (by decide) (by decide) hk1 hFc hB ht [0, 1, 2] rfl (by decide)
  clear hB hk1 hFc hPc hDc hP hD hS hz1 hvm ht t
  obtain ⟨hP1, hD1⟩ := hJ
  generalize H1 = H at hP1 hS1 ⊢
  have hP : va_P (dC, dI) vwCl ([(x0, .inr (7, [.ref (AD 0), .ref qM, .ref qd, .ref qr_, .ref qT, .ref qb, .ref qL, .int go])), (AD 0, .inr (5, [.int cnt, .ref (AD 1), .ref (AD 8)])), (AD 1, .inl (cY 2, 6, .inr (.inr (.inr (.inr (fun j => some (AD (2 + j))))))))] ++ bkM AD cY MV) H := hP1
  have hD : va_D A ([(x0, .inr (7, [.ref (AD 0), .ref qM, .ref qd, .ref qr_, .ref qT, .ref qb, .ref qL, .int go])), (AD 0, .inr (5, [.int cnt, .ref (AD 1), .ref (AD 8)])), (AD 1, .inl (cY 2, 6, .inr (.inr (.inr (.inr (fun j => some (AD (2 + j))))))))] ++ bkM AD cY MV) := hD1
  have hS := hS1
  clear hP1 hD1 hS1
  refine lv_iload hx hb dX7_move_21 (lv_at hl 4 rfl) ?_
  refine lv_iconst (v := 1) hx hb dX7_move_23 (by decide) ?_
  refine lv_sipush (v := 150) hx hb dX7_move_24 (by decide) ?_
  have hPc := hP.sub (ws' := []) [] rfl
  have hDc := hD.sub (ws' := []) [] (by decide) rfl
  have hFc := va_free (wc := []) hD hS hA [] rfl
  refine vx_callv (vx_runS (As := [.int p3, .int 1, .int 150]) (rest := []) ⟨hx, hb, hml, hown, hts⟩ (c_X7_needWithin l dC dI cY p3 1 150 hst H.size) (va_cwS 3 hts gX7_move_X7_needWithin rfl rfl rfl (by decide +kernel) ⟨Nat.le_of_ble_eq_true rfl, Nat.le_of_ble_eq_true rfl⟩) ⟨blindX, fun U hU hW => ⟨rfl, xPre_of hPc hK hN hDc xn xt xz hS hFc U hU hW⟩⟩ rfl rfl hl.1 rfl (lv_room (Nat.le_of_ble_eq_true rfl)) dX7_move_27 ⟨Nat.le_of_ble_eq_true rfl, Nat.le_of_ble_eq_true rfl⟩) hS (fun q _ h => hFc q h) hFc (fun q _ h => hFc q h) (fun E9 ce9 q9 u t H1 locs1 ht hvm c_4 hB hz1 hk1 hS1 hce hcv hcl => ?_) (fun u t H1 locs ht hvm c_4 hB hz1 hk1 hS1 => ?_)
  · obtain ⟨hE9, hB⟩ := hB
    have hB : wPost (dC, dI) [] (va_A [] H.size) () t := hB
    have hJ := wJoinQ (wr := [(x0, .inr (7, [.ref (AD 0), .ref qM, .ref qd, .ref qr_, .ref qT, .ref qb, .ref qL, .int go])), (AD 0, .inr (5, [.int cnt, .ref (AD 1), .ref (AD 8)])), (AD 1, .inl (cY 2, 6, .inr (.inr (.inr (.inr (fun j => some (AD (2 + j))))))))]) (w1 := []) (wn := [(x0, .inr (7, [.ref (AD 0), .ref qM, .ref qd, .ref qr_, .ref qT, .ref qb, .ref qL, .int go])), (AD 0, .inr (5, [.int cnt, .ref (AD 1), .ref (AD 8)])), (AD 1, .inl (cY 2, 6, .inr (.inr (.inr (.inr (fun j => some (AD (2 + j))))))))]) hP hD [] [0, 1, 2] rfl rfl (by decide) (by decide) hk1 hFc hB ht [0, 1, 2] rfl (by decide)
    obtain ⟨hP9, hD9⟩ := hJ
    have hx9 : (X7_move_x cnt go p0 p1 p2 p3 p4 p5) = (X7_needWithin_x 150 1 p3) := by rw [X7_move_x, if_pos c_1, if_pos c_2, if_pos c_3, if_neg c_4]
    exact vx_out (fun x h => (ht0 x h).elim) hlocks hce hcv hcl (fun t9 ht9 hW9 => ⟨(), by rw [hx9]; exact c_4, ⟨by rw [hx9]; exact hE9, by rw [ht9]; exact hP9, hD9⟩, hS1.F ht9⟩) hS1.2.2 (Nat.le_of_ble_eq_true rfl) (Nat.le_of_ble_eq_true rfl)
  have hJ := wJoinQ (wr := [(x0, .inr (7, [.ref (AD 0), .ref qM, .ref qd, .ref qr_, .ref qT, .ref qb, .ref qL, .int go])), (AD 0, .inr (5, [.int cnt, .ref (AD 1), .ref (AD 8)])), (AD 1, .inl (cY 2, 6, .inr (.inr (.inr (.inr (fun j => some (AD (2 + j))))))))]) (w1 := []) (wn := [(x0, .inr (7, [.ref (AD 0), .ref qM, .ref qd, .ref qr_, .ref qT, .ref qb, .ref qL, .int go])), (AD 0, .inr (5, [.int cnt, .ref (AD 1), .ref (AD 8)])), (AD 1, .inl (cY 2, 6, .inr (.inr (.inr (.inr (fun j => some (AD (2 + j))))))))]) hP hD [] [0, 1, 2] rfl rfl (by decide) (by decide) hk1 hFc hB ht [0, 1, 2] rfl (by decide)
  clear hB hk1 hFc hPc hDc hP hD hS hz1 hvm ht t
  obtain ⟨hP1, hD1⟩ := hJ
  generalize H1 = H at hP1 hS1 ⊢
  have hP : va_P (dC, dI) vwCl ([(x0, .inr (7, [.ref (AD 0), .ref qM, .ref qd, .ref qr_, .ref qT, .ref qb, .ref qL, .int go])), (AD 0, .inr (5, [.int cnt, .ref (AD 1), .ref (AD 8)])), (AD 1, .inl (cY 2, 6, .inr (.inr (.inr (.inr (fun j => some (AD (2 + j))))))))] ++ bkM AD cY MV) H := hP1
  have hD : va_D A ([(x0, .inr (7, [.ref (AD 0), .ref qM, .ref qd, .ref qr_, .ref qT, .ref qb, .ref qL, .int go])), (AD 0, .inr (5, [.int cnt, .ref (AD 1), .ref (AD 8)])), (AD 1, .inl (cY 2, 6, .inr (.inr (.inr (.inr (fun j => some (AD (2 + j))))))))] ++ bkM AD cY MV) := hD1
  have hS := hS1
  clear hP1 hD1 hS1
  refine lv_iload hx hb dX7_move_30 (lv_at hl 5 rfl) ?_
  refine lv_iconst (v := 0) hx hb dX7_move_32 (by decide) ?_
  refine lv_iconst (v := 3) hx hb dX7_move_33 (by decide) ?_
  have hPc := hP.sub (ws' := []) [] rfl
  have hDc := hD.sub (ws' := []) [] (by decide) rfl
  have hFc := va_free (wc := []) hD hS hA [] rfl
  refine vx_callv (vx_runS (As := [.int p4, .int 0, .int 3]) (rest := []) ⟨hx, hb, hml, hown, hts⟩ (c_X7_needWithin l dC dI cY p4 0 3 hst H.size) (va_cwS 3 hts gX7_move_X7_needWithin rfl rfl rfl (by decide +kernel) ⟨Nat.le_of_ble_eq_true rfl, Nat.le_of_ble_eq_true rfl⟩) ⟨blindX, fun U hU hW => ⟨rfl, xPre_of hPc hK hN hDc xn xt xz hS hFc U hU hW⟩⟩ rfl rfl hl.1 rfl (lv_room (Nat.le_of_ble_eq_true rfl)) dX7_move_34 ⟨Nat.le_of_ble_eq_true rfl, Nat.le_of_ble_eq_true rfl⟩) hS (fun q _ h => hFc q h) hFc (fun q _ h => hFc q h) (fun E9 ce9 q9 u t H1 locs1 ht hvm c_5 hB hz1 hk1 hS1 hce hcv hcl => ?_) (fun u t H1 locs ht hvm c_5 hB hz1 hk1 hS1 => ?_)
  · obtain ⟨hE9, hB⟩ := hB
    have hB : wPost (dC, dI) [] (va_A [] H.size) () t := hB
    have hJ := wJoinQ (wr := [(x0, .inr (7, [.ref (AD 0), .ref qM, .ref qd, .ref qr_, .ref qT, .ref qb, .ref qL, .int go])), (AD 0, .inr (5, [.int cnt, .ref (AD 1), .ref (AD 8)])), (AD 1, .inl (cY 2, 6, .inr (.inr (.inr (.inr (fun j => some (AD (2 + j))))))))]) (w1 := []) (wn := [(x0, .inr (7, [.ref (AD 0), .ref qM, .ref qd, .ref qr_, .ref qT, .ref qb, .ref qL, .int go])), (AD 0, .inr (5, [.int cnt, .ref (AD 1), .ref (AD 8)])), (AD 1, .inl (cY 2, 6, .inr (.inr (.inr (.inr (fun j => some (AD (2 + j))))))))]) hP hD [] [0, 1, 2] rfl rfl (by decide) (by decide) hk1 hFc hB ht [0, 1, 2] rfl (by decide)
    obtain ⟨hP9, hD9⟩ := hJ
    have hx9 : (X7_move_x cnt go p0 p1 p2 p3 p4 p5) = (X7_needWithin_x 3 0 p4) := by rw [X7_move_x, if_pos c_1, if_pos c_2, if_pos c_3, if_pos c_4, if_neg c_5]
    exact vx_out (fun x h => (ht0 x h).elim) hlocks hce hcv hcl (fun t9 ht9 hW9 => ⟨(), by rw [hx9]; exact c_5, ⟨by rw [hx9]; exact hE9, by rw [ht9]; exact hP9, hD9⟩, hS1.F ht9⟩) hS1.2.2 (Nat.le_of_ble_eq_true rfl) (Nat.le_of_ble_eq_true rfl)
  have hJ := wJoinQ (wr := [(x0, .inr (7, [.ref (AD 0), .ref qM, .ref qd, .ref qr_, .ref qT, .ref qb, .ref qL, .int go])), (AD 0, .inr (5, [.int cnt, .ref (AD 1), .ref (AD 8)])), (AD 1, .inl (cY 2, 6, .inr (.inr (.inr (.inr (fun j => some (AD (2 + j))))))))]) (w1 := []) (wn := [(x0, .inr (7, [.ref (AD 0), .ref qM, .ref qd, .ref qr_, .ref qT, .ref qb, .ref qL, .int go])), (AD 0, .inr (5, [.int cnt, .ref (AD 1), .ref (AD 8)])), (AD 1, .inl (cY 2, 6, .inr (.inr (.inr (.inr (fun j => some (AD (2 + j))))))))]) hP hD [] [0, 1, 2] rfl rfl (by decide) (by decide) hk1 hFc hB ht [0, 1, 2] rfl (by decide)
  clear hB hk1 hFc hPc hDc hP hD hS hz1 hvm ht t
  obtain ⟨hP1, hD1⟩ := hJ
  generalize H1 = H at hP1 hS1 ⊢
  have hP : va_P (dC, dI) vwCl ([(x0, .inr (7, [.ref (AD 0), .ref qM, .ref qd, .ref qr_, .ref qT, .ref qb, .ref qL, .int go])), (AD 0, .inr (5, [.int cnt, .ref (AD 1), .ref (AD 8)])), (AD 1, .inl (cY 2, 6, .inr (.inr (.inr (.inr (fun j => some (AD (2 + j))))))))] ++ bkM AD cY MV) H := hP1
  have hD : va_D A ([(x0, .inr (7, [.ref (AD 0), .ref qM, .ref qd, .ref qr_, .ref qT, .ref qb, .ref qL, .int go])), (AD 0, .inr (5, [.int cnt, .ref (AD 1), .ref (AD 8)])), (AD 1, .inl (cY 2, 6, .inr (.inr (.inr (.inr (fun j => some (AD (2 + j))))))))] ++ bkM AD cY MV) := hD1
  have hS := hS1
  clear hP1 hD1 hS1
  refine lv_iload hx hb dX7_move_37 (lv_at hl 6 rfl) ?_
  refine lv_iconst (v := 1) hx hb dX7_move_39 (by decide) ?_
  refine lv_sipush (v := 200) hx hb dX7_move_40 (by decide) ?_
  have hPc := hP.sub (ws' := []) [] rfl
  have hDc := hD.sub (ws' := []) [] (by decide) rfl
  have hFc := va_free (wc := []) hD hS hA [] rfl
  refine vx_callv (vx_runS (As := [.int p5, .int 1, .int 200]) (rest := []) ⟨hx, hb, hml, hown, hts⟩ (c_X7_needWithin l dC dI cY p5 1 200 hst H.size) (va_cwS 3 hts gX7_move_X7_needWithin rfl rfl rfl (by decide +kernel) ⟨Nat.le_of_ble_eq_true rfl, Nat.le_of_ble_eq_true rfl⟩) ⟨blindX, fun U hU hW => ⟨rfl, xPre_of hPc hK hN hDc xn xt xz hS hFc U hU hW⟩⟩ rfl rfl hl.1 rfl (lv_room (Nat.le_of_ble_eq_true rfl)) dX7_move_43 ⟨Nat.le_of_ble_eq_true rfl, Nat.le_of_ble_eq_true rfl⟩) hS (fun q _ h => hFc q h) hFc (fun q _ h => hFc q h) (fun E9 ce9 q9 u t H1 locs1 ht hvm c_6 hB hz1 hk1 hS1 hce hcv hcl => ?_) (fun u t H1 locs ht hvm c_6 hB hz1 hk1 hS1 => ?_)
  · obtain ⟨hE9, hB⟩ := hB
    have hB : wPost (dC, dI) [] (va_A [] H.size) () t := hB
    have hJ := wJoinQ (wr := [(x0, .inr (7, [.ref (AD 0), .ref qM, .ref qd, .ref qr_, .ref qT, .ref qb, .ref qL, .int go])), (AD 0, .inr (5, [.int cnt, .ref (AD 1), .ref (AD 8)])), (AD 1, .inl (cY 2, 6, .inr (.inr (.inr (.inr (fun j => some (AD (2 + j))))))))]) (w1 := []) (wn := [(x0, .inr (7, [.ref (AD 0), .ref qM, .ref qd, .ref qr_, .ref qT, .ref qb, .ref qL, .int go])), (AD 0, .inr (5, [.int cnt, .ref (AD 1), .ref (AD 8)])), (AD 1, .inl (cY 2, 6, .inr (.inr (.inr (.inr (fun j => some (AD (2 + j))))))))]) hP hD [] [0, 1, 2] rfl rfl (by decide) (by decide) hk1 hFc hB ht [0, 1, 2] rfl (by decide)
    obtain ⟨hP9, hD9⟩ := hJ
    have hx9 : (X7_move_x cnt go p0 p1 p2 p3 p4 p5) = (X7_needWithin_x 200 1 p5) := by rw [X7_move_x, if_pos c_1, if_pos c_2, if_pos c_3, if_pos c_4, if_pos c_5, if_neg c_6]
    exact vx_out (fun x h => (ht0 x h).elim) hlocks hce hcv hcl (fun t9 ht9 hW9 => ⟨(), by rw [hx9]; exact c_6, ⟨by rw [hx9]; exact hE9, by rw [ht9]; exact hP9, hD9⟩, hS1.F ht9⟩) hS1.2.2 (Nat.le_of_ble_eq_true rfl) (Nat.le_of_ble_eq_true rfl)
  have hJ := wJoinQ (wr := [(x0, .inr (7, [.ref (AD 0), .ref qM, .ref qd, .ref qr_, .ref qT, .ref qb, .ref qL, .int go])), (AD 0, .inr (5, [.int cnt, .ref (AD 1), .ref (AD 8)])), (AD 1, .inl (cY 2, 6, .inr (.inr (.inr (.inr (fun j => some (AD (2 + j))))))))]) (w1 := []) (wn := [(x0, .inr (7, [.ref (AD 0), .ref qM, .ref qd, .ref qr_, .ref qT, .ref qb, .ref qL, .int go])), (AD 0, .inr (5, [.int cnt, .ref (AD 1), .ref (AD 8)])), (AD 1, .inl (cY 2, 6, .inr (.inr (.inr (.inr (fun j => some (AD (2 + j))))))))]) hP hD [] [0, 1, 2] rfl rfl (by decide) (by decide) hk1 hFc hB ht [0, 1, 2] rfl (by decide)
  clear hB hk1 hFc hPc hDc hP hD hS hz1 hvm ht t
  obtain ⟨hP1, hD1⟩ := hJ
  generalize H1 = H at hP1 hS1 ⊢
  have hP : va_P (dC, dI) vwCl ([(x0, .inr (7, [.ref (AD 0), .ref qM, .ref qd, .ref qr_, .ref qT, .ref qb, .ref qL, .int go])), (AD 0, .inr (5, [.int cnt, .ref (AD 1), .ref (AD 8)])), (AD 1, .inl (cY 2, 6, .inr (.inr (.inr (.inr (fun j => some (AD (2 + j))))))))] ++ bkM AD cY MV) H := hP1
  have hD : va_D A ([(x0, .inr (7, [.ref (AD 0), .ref qM, .ref qd, .ref qr_, .ref qT, .ref qb, .ref qL, .int go])), (AD 0, .inr (5, [.int cnt, .ref (AD 1), .ref (AD 8)])), (AD 1, .inl (cY 2, 6, .inr (.inr (.inr (.inr (fun j => some (AD (2 + j))))))))] ++ bkM AD cY MV) := hD1
  have hS := hS1
  clear hP1 hD1 hS1
  refine lv_aload_n hx hb dX7_move_46 rfl (lv_at hl 0 rfl) ?_
  have hPc := hP.sub (ws' := [(x0, .inr (7, [.ref (AD 0), .ref qM, .ref qd, .ref qr_, .ref qT, .ref qb, .ref qL, .int go]))]) [0] rfl
  have hDc := hD.sub (ws' := [(x0, .inr (7, [.ref (AD 0), .ref qM, .ref qd, .ref qr_, .ref qT, .ref qb, .ref qL, .int go]))]) [0] (by decide) rfl
  have hFc := va_free (wc := [(x0, .inr (7, [.ref (AD 0), .ref qM, .ref qd, .ref qr_, .ref qT, .ref qb, .ref qL, .int go]))]) hD hS hA [0] rfl
  refine vx_callv (vx_runV (As := []) (rest := []) ⟨hx, hb, hml, hown, hts⟩ (c_X7_needNoRound l dC dI cY x0 qM qd qr_ qT qb qL go (AD 0) hst H.size) (cwV 0 hts gX7_move_X7_needNoRound rfl rfl rfl (by decide +kernel) ⟨Nat.le_of_ble_eq_true rfl, Nat.le_of_ble_eq_true rfl⟩) ⟨blindX, va_recv hK hPc (ci := 7) (q0 := 0) rfl rfl, fun U hU hW => ⟨rfl, xPre_of hPc hK hN hDc xn xt xz hS hFc U hU hW⟩⟩ rfl rfl hl.1 rfl (lv_room (Nat.le_of_ble_eq_true rfl)) dX7_move_47 ⟨Nat.le_of_ble_eq_true rfl, Nat.le_of_ble_eq_true rfl⟩) hS (fun q _ h => hFc q h) hFc (fun q _ h => hFc q h) (fun E9 ce9 q9 u t H1 locs1 ht hvm c_7 hB hz1 hk1 hS1 hce hcv hcl => ?_) (fun u t H1 locs ht hvm c_7 hB hz1 hk1 hS1 => ?_)
  · obtain ⟨hE9, hB⟩ := hB
    have hB : wPost (dC, dI) [(x0, .inr (7, [.ref (AD 0), .ref qM, .ref qd, .ref qr_, .ref qT, .ref qb, .ref qL, .int go]))] (va_A [(x0, .inr (7, [.ref (AD 0), .ref qM, .ref qd, .ref qr_, .ref qT, .ref qb, .ref qL, .int go]))] H.size) () t := hB
    have hJ := wJoinQ (wr := [(AD 0, .inr (5, [.int cnt, .ref (AD 1), .ref (AD 8)])), (AD 1, .inl (cY 2, 6, .inr (.inr (.inr (.inr (fun j => some (AD (2 + j))))))))]) (w1 := [(x0, .inr (7, [.ref (AD 0), .ref qM, .ref qd, .ref qr_, .ref qT, .ref qb, .ref qL, .int go]))]) (wn := [(x0, .inr (7, [.ref (AD 0), .ref qM, .ref qd, .ref qr_, .ref qT, .ref qb, .ref qL, .int go])), (AD 0, .inr (5, [.int cnt, .ref (AD 1), .ref (AD 8)])), (AD 1, .inl (cY 2, 6, .inr (.inr (.inr (.inr (fun j => some (AD (2 + j))))))))]) hP hD [0] [1, 2] rfl rfl (by decide) (by decide) hk1 hFc hB ht [2, 0, 1] rfl (by decide)
    obtain ⟨hP9, hD9⟩ := hJ
    have hx9 : (X7_move_x cnt go p0 p1 p2 p3 p4 p5) = (X7_needNoRound_x go) := by rw [X7_move_x, if_pos c_1, if_pos c_2, if_pos c_3, if_pos c_4, if_pos c_5, if_pos c_6, if_neg c_7]
    exact vx_out (fun x h => (ht0 x h).elim) hlocks hce hcv hcl (fun t9 ht9 hW9 => ⟨(), by rw [hx9]; exact c_7, ⟨by rw [hx9]; exact hE9, by rw [ht9]; exact hP9, hD9⟩, hS1.F ht9⟩) hS1.2.2 (Nat.le_of_ble_eq_true rfl) (Nat.le_of_ble_eq_true rfl)
  have hJ := wJoinQ (wr := [(AD 0, .inr (5, [.int cnt, .ref (AD 1), .ref (AD 8)])), (AD 1, .inl (cY 2, 6, .inr (.inr (.inr (.inr (fun j => some (AD (2 + j))))))))]) (w1 := [(x0, .inr (7, [.ref (AD 0), .ref qM, .ref qd, .ref qr_, .ref qT, .ref qb, .ref qL, .int go]))]) (wn := [(x0, .inr (7, [.ref (AD 0), .ref qM, .ref qd, .ref qr_, .ref qT, .ref qb, .ref qL, .int go])), (AD 0, .inr (5, [.int cnt, .ref (AD 1), .ref (AD 8)])), (AD 1, .inl (cY 2, 6, .inr (.inr (.inr (.inr (fun j => some (AD (2 + j))))))))]) hP hD [0] [1, 2] rfl rfl (by decide) (by decide) hk1 hFc hB ht [2, 0, 1] rfl (by decide)
  clear hB hk1 hFc hPc hDc hP hD hS hz1 hvm ht t
  obtain ⟨hP1, hD1⟩ := hJ
  generalize H1 = H at hP1 hS1 ⊢
  have hP : va_P (dC, dI) vwCl ([(x0, .inr (7, [.ref (AD 0), .ref qM, .ref qd, .ref qr_, .ref qT, .ref qb, .ref qL, .int go])), (AD 0, .inr (5, [.int cnt, .ref (AD 1), .ref (AD 8)])), (AD 1, .inl (cY 2, 6, .inr (.inr (.inr (.inr (fun j => some (AD (2 + j))))))))] ++ bkM AD cY MV) H := hP1
  have hD : va_D A ([(x0, .inr (7, [.ref (AD 0), .ref qM, .ref qd, .ref qr_, .ref qT, .ref qb, .ref qL, .int go])), (AD 0, .inr (5, [.int cnt, .ref (AD 1), .ref (AD 8)])), (AD 1, .inl (cY 2, 6, .inr (.inr (.inr (.inr (fun j => some (AD (2 + j))))))))] ++ bkM AD cY MV) := hD1
  have hS := hS1
  clear hP1 hD1 hS1
  refine lv_aload_n hx hb dX7_move_50 rfl (lv_at hl 0 rfl) ?_
  refine va_get (D := (dC, dI)) (ci := 7) (v := .ref (AD 0)) (C := RX7) (T := TX7) (N := 8) hx hb hts inw_X7_move_X7 hown hK hP 0 rfl rfl 0 (by decide) (hts (.fieldLink RX7 10 "DuelFrames" "moves" "LDuelFrames$MoveList;") (List.mem_of_getElem? (i := 3) rfl)) (fun _ h9 => h9) rfl dX7_move_51 ?_
  refine va_get (D := (dC, dI)) (ci := 5) (v := .int cnt) (C := RX5) (T := TX5) (N := 3) hx hb hts inw_X7_move_X5 hown hK hP 1 rfl rfl 0 (by decide) (hts (.fieldLink RX7 63 "DuelFrames$MoveList" "count" "I") (List.mem_of_getElem? (i := 4) rfl)) (fun _ h9 => h9) rfl dX7_move_54 ?_
  refine lv_bipush (v := 6) hx hb dX7_move_57 (by decide) ?_
  refine lv_icmp_lt (tgt := 72) hx hb dX7_move_59 (by decide) (fun c_8 => ?_) (fun c_8 => ?_)
  · refine lv_aload_n hx hb dX7_move_72 rfl (lv_at hl 0 rfl) ?_
    refine va_get (D := (dC, dI)) (ci := 7) (v := .ref (AD 0)) (C := RX7) (T := TX7) (N := 8) hx hb hts inw_X7_move_X7 hown hK hP 0 rfl rfl 0 (by decide) (hts (.fieldLink RX7 10 "DuelFrames" "moves" "LDuelFrames$MoveList;") (List.mem_of_getElem? (i := 3) rfl)) (fun _ h9 => h9) rfl dX7_move_73 ?_
    refine va_get (D := (dC, dI)) (ci := 5) (v := .int cnt) (C := RX5) (T := TX5) (N := 3) hx hb hts inw_X7_move_X5 hown hK hP 1 rfl rfl 0 (by decide) (hts (.fieldLink RX7 63 "DuelFrames$MoveList" "count" "I") (List.mem_of_getElem? (i := 4) rfl)) (fun _ h9 => h9) rfl dX7_move_76 ?_
    refine lv_istore (lv' := [(7, .int cnt), (0, .ref x0), (1, .int p0), (2, .int p1), (3, .int p2), (4, .int p3), (5, .int p4), (6, .int p5)]) hx hb dX7_move_79 hl (by decide) rfl (fun ls hl => ?_)
    refine lv_aload_n hx hb dX7_move_81 rfl (lv_at hl 1 rfl) ?_
    refine va_get (D := (dC, dI)) (ci := 7) (v := .ref (AD 0)) (C := RX7) (T := TX7) (N := 8) hx hb hts inw_X7_move_X7 hown hK hP 0 rfl rfl 0 (by decide) (hts (.fieldLink RX7 10 "DuelFrames" "moves" "LDuelFrames$MoveList;") (List.mem_of_getElem? (i := 3) rfl)) (fun _ h9 => h9) rfl dX7_move_82 ?_
    refine lv_iload hx hb dX7_move_85 (lv_at hl 0 rfl) ?_
    have hPc := hP.sub (ws' := [(AD 0, .inr (5, [.int cnt, .ref (AD 1), .ref (AD 8)])), (AD 1, .inl (cY 2, 6, .inr (.inr (.inr (.inr (fun j => some (AD (2 + j))))))))]) [1, 2] rfl
    refine va_csr (W.runV (As := [.int cnt]) (rest := []) ⟨hx, hb, hml, hown, hts⟩ (c_X5_at l dC dI cY AD cnt cnt) (cwV 1 hts gX7_move_X5_at rfl rfl rfl (by decide +kernel) ⟨Nat.le_of_ble_eq_true rfl, Nat.le_of_ble_eq_true rfl⟩) ⟨blindR, va_recv hK hPc (ci := 5) (q0 := 0) rfl rfl, fun U hU hW => ⟨rfl, rPre_of hPc hK hN U hU hW⟩⟩ rfl rfl hl.1 rfl (lv_room (Nat.le_of_ble_eq_true rfl)) dX7_move_87 ⟨Nat.le_of_ble_eq_true rfl, Nat.le_of_ble_eq_true rfl⟩) (fun r hw => ?_)
    subst r
    refine lv_iload_n hx hb dX7_move_90 rfl (lv_at hl 2 rfl) ?_
    refine lv_iload_n hx hb dX7_move_91 rfl (lv_at hl 3 rfl) ?_
    refine lv_iload_n hx hb dX7_move_92 rfl (lv_at hl 4 rfl) ?_
    refine lv_iload hx hb dX7_move_93 (lv_at hl 5 rfl) ?_
    refine lv_iload hx hb dX7_move_95 (lv_at hl 6 rfl) ?_
    refine lv_iload hx hb dX7_move_97 (lv_at hl 7 rfl) ?_
    have hPc := bk_move hP (mi_lt cnt)
    have hDc := bk_D (X := [(x0, .inr (7, [.ref (AD 0), .ref qM, .ref qd, .ref qr_, .ref qT, .ref qb, .ref qL, .int go])), (AD 0, .inr (5, [.int cnt, .ref (AD 1), .ref (AD 8)])), (AD 1, .inl (cY 2, 6, .inr (.inr (.inr (.inr (fun j => some (AD (2 + j))))))))]) (mi_lt cnt) hD
    have hFc := bk_F (X := [(x0, .inr (7, [.ref (AD 0), .ref qM, .ref qd, .ref qr_, .ref qT, .ref qb, .ref qL, .int go])), (AD 0, .inr (5, [.int cnt, .ref (AD 1), .ref (AD 8)])), (AD 1, .inl (cY 2, 6, .inr (.inr (.inr (.inr (fun j => some (AD (2 + j))))))))]) (mi_lt cnt) hD hS hA
    refine va_callv (va_runV (As := [.int p0, .int p1, .int p2, .int p3, .int p4, .int p5]) (rest := []) ⟨hx, hb, hml, hown, hts⟩ (c_X4_make l dC dI cY (AD (2 + (mi cnt))) (AD (9 + (mi cnt))) (AD (16 + (mi cnt))) ((MV (mi cnt)) 0) ((MV (mi cnt)) 1) ((MV (mi cnt)) 2) ((MV (mi cnt)) 3) ((MV (mi cnt)) 4) ((MV (mi cnt)) 5) (fun k => (MV (mi cnt)) (6 + k)) (fun k => (MV (mi cnt)) (11 + k)) p0 p1 p2 p3 p4 p5 H.size) (cwV 6 hts gX7_move_X4_make rfl rfl rfl (by decide +kernel) ⟨Nat.le_of_ble_eq_true rfl, Nat.le_of_ble_eq_true rfl⟩) ⟨blindW, va_recv hK hPc (ci := 4) (q0 := 0) rfl rfl, fun U hU hW => ⟨rfl, wPre_of hPc hK hN hDc U hU hW⟩⟩ rfl rfl hl.1 rfl (lv_room (Nat.le_of_ble_eq_true rfl)) dX7_move_99 ⟨Nat.le_of_ble_eq_true rfl, Nat.le_of_ble_eq_true rfl⟩) hS (fun q _ h => hFc q h) hFc (fun u t H1 locs ht hvm hw hB hz1 hk1 hS1 => ?_)
    have hB2 : wPost (dC, dI) (mvC (AD (2 + (mi cnt))) (AD (9 + (mi cnt))) (AD (16 + (mi cnt))) cY (rowM p0 p1 p2 p3 p4 p5 (X4_make_w1 (fun k => (MV (mi cnt)) (6 + k))) (fun k => (MV (mi cnt)) (11 + k)))) (va_A (mvC (AD (2 + (mi cnt))) (AD (9 + (mi cnt))) (AD (16 + (mi cnt))) cY (MV (mi cnt))) H.size) u t := mvRow hB
    have hJ := bkJoin (X := [(x0, .inr (7, [.ref (AD 0), .ref qM, .ref qd, .ref qr_, .ref qT, .ref qb, .ref qL, .int go])), (AD 0, .inr (5, [.int cnt, .ref (AD 1), .ref (AD 8)])), (AD 1, .inl (cY 2, 6, .inr (.inr (.inr (.inr (fun j => some (AD (2 + j))))))))]) (mi_lt cnt) hP hD hk1 hB2 ht
    clear hB2 hB hk1 hFc hPc hDc hP hD hS hz1 hvm ht t
    obtain ⟨hP1, hD1⟩ := hJ
    generalize H1 = H at hP1 hS1 ⊢
    have hP : va_P (dC, dI) vwCl ([(x0, .inr (7, [.ref (AD 0), .ref qM, .ref qd, .ref qr_, .ref qT, .ref qb, .ref qL, .int go])), (AD 0, .inr (5, [.int cnt, .ref (AD 1), .ref (AD 8)])), (AD 1, .inl (cY 2, 6, .inr (.inr (.inr (.inr (fun j => some (AD (2 + j))))))))] ++ bkM AD cY (mvS MV (mi cnt) (rowM p0 p1 p2 p3 p4 p5 (X4_make_w1 (fun k => (MV (mi cnt)) (6 + k))) (fun k => (MV (mi cnt)) (11 + k))))) H := hP1
    have hD : va_D A ([(x0, .inr (7, [.ref (AD 0), .ref qM, .ref qd, .ref qr_, .ref qT, .ref qb, .ref qL, .int go])), (AD 0, .inr (5, [.int cnt, .ref (AD 1), .ref (AD 8)])), (AD 1, .inl (cY 2, 6, .inr (.inr (.inr (.inr (fun j => some (AD (2 + j))))))))] ++ bkM AD cY (mvS MV (mi cnt) (rowM p0 p1 p2 p3 p4 p5 (X4_make_w1 (fun k => (MV (mi cnt)) (6 + k))) (fun k => (MV (mi cnt)) (11 + k))))) := hD1
    have hS := hS1
    clear hP1 hD1 hS1
    refine lv_aload_n hx hb dX7_move_102 rfl (lv_at hl 1 rfl) ?_
    refine va_get (D := (dC, dI)) (ci := 7) (v := .ref (AD 0)) (C := RX7) (T := TX7) (N := 8) hx hb hts inw_X7_move_X7 hown hK hP 0 rfl rfl 0 (by decide) (hts (.fieldLink RX7 10 "DuelFrames" "moves" "LDuelFrames$MoveList;") (List.mem_of_getElem? (i := 3) rfl)) (fun _ h9 => h9) rfl dX7_move_103 ?_
    refine lv_iload hx hb dX7_move_106 (lv_at hl 0 rfl) ?_
    refine lv_iconst (v := 1) hx hb dX7_move_108 (by decide) ?_
    refine lv_iadd hx hb dX7_move_109 ?_
    refine va_put (D := (dC, dI)) (ci := 5) (v := .int (cnt + 1)) (ty := .int) (C := RX5) (T := TX5) (N := 3) hx hb hts inw_X7_move_X5 tyX5 tyX5_ok nmX5 hown hK hP hD hS 1 rfl rfl 0 (by decide) (hts (.fieldLink RX7 63 "DuelFrames$MoveList" "count" "I") (List.mem_of_getElem? (i := 4) rfl)) (fun _ h9 => h9) rfl (by decide +kernel) rfl rfl (Nat.le_of_ble_eq_true rfl) dX7_move_110 (fun H locs hP1 hD1 hS1 => ?_)
    clear hP hD hS
    have hP : va_P (dC, dI) vwCl ([(x0, .inr (7, [.ref (AD 0), .ref qM, .ref qd, .ref qr_, .ref qT, .ref qb, .ref qL, .int go])), (AD 0, .inr (5, [.int (cnt + 1), .ref (AD 1), .ref (AD 8)])), (AD 1, .inl (cY 2, 6, .inr (.inr (.inr (.inr (fun j => some (AD (2 + j))))))))] ++ bkM AD cY (mvS MV (mi cnt) (rowM p0 p1 p2 p3 p4 p5 (X4_make_w1 (fun k => (MV (mi cnt)) (6 + k))) (fun k => (MV (mi cnt)) (11 + k))))) H := hP1
    have hD : va_D A ([(x0, .inr (7, [.ref (AD 0), .ref qM, .ref qd, .ref qr_, .ref qT, .ref qb, .ref qL, .int go])), (AD 0, .inr (5, [.int (cnt + 1), .ref (AD 1), .ref (AD 8)])), (AD 1, .inl (cY 2, 6, .inr (.inr (.inr (.inr (fun j => some (AD (2 + j))))))))] ++ bkM AD cY (mvS MV (mi cnt) (rowM p0 p1 p2 p3 p4 p5 (X4_make_w1 (fun k => (MV (mi cnt)) (6 + k))) (fun k => (MV (mi cnt)) (11 + k))))) := hD1
    have hS := hS1
    clear hP1 hD1 hS1
    refine lv_iload hx hb dX7_move_113 (lv_at hl 0 rfl) ?_
    have hx9 : (X7_move_x cnt go p0 p1 p2 p3 p4 p5) = 0 := by rw [X7_move_x, if_pos c_1, if_pos c_2, if_pos c_3, if_pos c_4, if_pos c_5, if_pos c_6, if_pos c_7, if_pos c_8]
    have hP9 : va_P (dC, dI) vwCl ([(x0, .inr (7, [.ref (AD 0), .ref qM, .ref qd, .ref qr_, .ref qT, .ref qb, .ref qL, .int go])), (AD 0, .inr (5, [.int (cnt + 1), .ref (AD 1), .ref (AD 8)])), (AD 1, .inl (cY 2, 6, .inr (.inr (.inr (.inr (fun j => some (AD (2 + j))))))))] ++ bkM AD cY (mvS MV (mi cnt) (rowM p0 p1 p2 p3 p4 p5 (X4_make_w1 (fun k => (MV (mi cnt)) (6 + k))) (fun k => (MV (mi cnt)) (11 + k))))) H := hP
    have hD9 : va_D A ([(x0, .inr (7, [.ref (AD 0), .ref qM, .ref qd, .ref qr_, .ref qT, .ref qb, .ref qL, .int go])), (AD 0, .inr (5, [.int (cnt + 1), .ref (AD 1), .ref (AD 8)])), (AD 1, .inl (cY 2, 6, .inr (.inr (.inr (.inr (fun j => some (AD (2 + j))))))))] ++ bkM AD cY (mvS MV (mi cnt) (rowM p0 p1 p2 p3 p4 p5 (X4_make_w1 (fun k => (MV (mi cnt)) (6 + k))) (fun k => (MV (mi cnt)) (11 + k))))) := hD
    refine vx_ret ?_
    refine W.widen (k := 8) (n := 48) (Nat.le_of_ble_eq_true rfl) (Nat.le_of_ble_eq_true rfl) ?_
    exact W.iret (v := cnt) hx hb hr (fun t ht hW => ⟨⟨_, (), rfl, ⟨hx9, rfl⟩, wPost_of hP9 hD9 ht⟩, hS.F ht⟩) hS.2.2 dX7_move_115
  · have hx9 : (X7_move_x cnt go p0 p1 p2 p3 p4 p5) = 3 := by rw [X7_move_x, if_pos c_1, if_pos c_2, if_pos c_3, if_pos c_4, if_pos c_5, if_pos c_6, if_pos c_7, if_neg c_8]
    obtain ⟨sa9, hsa9⟩ := xt (69, "there are as many moves as can be") (List.mem_of_getElem? (i := 0) rfl)
    exact vx_throwS (own := RX7) (cls := "java/lang/IllegalStateException") (text := "there are as many moves as can be") (names := ["java/lang/RuntimeException", "java/lang/Exception"]) (ik := 67) (is := 69) (ic := 71) (mc := 8) (ms := 48) (sa := sa9) (A := A) hx hb hst hown (by decide +kernel) (by decide +kernel) (hts (.classLink RX7 67 "java/lang/IllegalStateException") (List.mem_of_getElem? (i := 1) rfl)) (hts (.initialized "java/lang/IllegalStateException") (List.mem_of_getElem? (i := 2) rfl)) hsa9 (xhat71 (fun w h => hts w (List.mem_cons_of_mem _ (List.mem_append_left _ (List.mem_append_right _ h)))) xn) xgood71 (xz.1) (xz.2) hS (by rw [hml]; exact hl.1) dX7_move_62 dX7_move_65 dX7_move_66 dX7_move_68 dX7_move_71 (fun x h => by cases ht0 x h) (Nat.le_of_ble_eq_true rfl) (Nat.le_of_ble_eq_true rfl) (Nat.le_of_ble_eq_true rfl) (Nat.le_of_ble_eq_true rfl) hlocks (fun t9 hv9 hz9 hk9 => ⟨(), by rw [hx9]; decide, ⟨by rw [hx9]; rfl, hP.ext hk9, hD⟩, (hS.ext hz9 hk9).F rfl⟩) hS.2.2 (Nat.le_of_ble_eq_true rfl) (Nat.le_of_ble_eq_true rfl)
theorem inw_X7_patch_X7 : ∀ w ∈ u_ws RX7 TX7 8, w ∈ wsX7_patch := fun _ h => List.mem_cons_of_mem _ (List.mem_append_left _ (List.mem_append_left _ (List.mem_append_left _ (List.mem_append_left _ (List.mem_append_left _ (List.mem_append_right _ h))))))
def X7_patch_x (cnt : Int32) (go : Int32) (move : Int32) (value : Int32) (what : Int32) : Int32 := (if (X7_needMove_x cnt move) = 0 then (if (X7_needWithin_x 4 0 what) = 0 then (if (X7_needWithin_x 60 0 value) = 0 then (if (X7_needNoRound_x go) = 0 then 0 else (X7_needNoRound_x go)) else (X7_needWithin_x 60 0 value)) else (X7_needWithin_x 4 0 what)) else (X7_needMove_x cnt move))
set_option maxHeartbeats 4000000 in
set_option maxRecDepth 100000 in
theorem c_X7_patch (l : Launch) (dC : Nat → ClassId) (dI : Nat → Nat → Nat) (cY : Nat → ClassId) (x0 : Nat) (qM : Nat) (qd : Nat) (qr_ : Nat) (qT : Nat) (qb : Nat) (qL : Nat) (go : Int32) (AD : Nat → Nat) (cnt : Int32) (MV : Nat → Nat → Int32) (move : Int32) (what : Int32) (value : Int32) (hst : l.stackTraces = false)  (sz : Nat) : vx_Met l yX7_patch wsX7_patch ({ frames := 7, cells := 4, slots := 24, locals := 106 } : Room) (va_Pc [.ref x0, .int move, .int what, .int value] (xPre (dC, dI) (tyL cY) ([(x0, .inr (7, [.ref (AD 0), .ref qM, .ref qd, .ref qr_, .ref qT, .ref qb, .ref qL, .int go])), (AD 0, .inr (5, [.int cnt, .ref (AD 1), .ref (AD 8)])), (AD 1, .inl (cY 2, 6, .inr (.inr (.inr (.inr (fun j => some (AD (2 + j))))))))] ++ bkM AD cY MV) sz)) (va_Qi (fun (r : Int32) (_ : Unit) => (X7_patch_x cnt go move value what) = 0 ∧ r = (X4_trait_r (MV (mi move)) what)) (wPost (dC, dI) ([(x0, .inr (7, [.ref (AD 0), .ref qM, .ref qd, .ref qr_, .ref qT, .ref qb, .ref qL, .int go])), (AD 0, .inr (5, [.int cnt, .ref (AD 1), .ref (AD 8)])), (AD 1, .inl (cY 2, 6, .inr (.inr (.inr (.inr (fun j => some (AD (2 + j))))))))] ++ bkM AD cY (mvS MV (mi move) (rowM ((MV (mi move)) 0) ((MV (mi move)) 1) ((MV (mi move)) 2) ((MV (mi move)) 3) ((MV (mi move)) 4) ((MV (mi move)) 5) (X4_setTrait_w1 (fun k => (MV (mi move)) (6 + k)) value what) (fun k => (MV (mi move)) (11 + k))))) (va_A ([(x0, .inr (7, [.ref (AD 0), .ref qM, .ref qd, .ref qr_, .ref qT, .ref qb, .ref qL, .int go])), (AD 0, .inr (5, [.int cnt, .ref (AD 1), .ref (AD 8)])), (AD 1, .inl (cY 2, 6, .inr (.inr (.inr (.inr (fun j => some (AD (2 + j))))))))] ++ bkM AD cY MV) sz)) (va_A ([(x0, .inr (7, [.ref (AD 0), .ref qM, .ref qd, .ref qr_, .ref qT, .ref qb, .ref qL, .int go])), (AD 0, .inr (5, [.int cnt, .ref (AD 1), .ref (AD 8)])), (AD 1, .inl (cY 2, 6, .inr (.inr (.inr (.inr (fun j => some (AD (2 + j))))))))] ++ bkM AD cY MV) sz)) (vx_X (fun _ : Unit => ¬ (X7_patch_x cnt go move value what) = 0) (xPost (dC, dI) ([(x0, .inr (7, [.ref (AD 0), .ref qM, .ref qd, .ref qr_, .ref qT, .ref qb, .ref qL, .int go])), (AD 0, .inr (5, [.int cnt, .ref (AD 1), .ref (AD 8)])), (AD 1, .inl (cY 2, 6, .inr (.inr (.inr (.inr (fun j => some (AD (2 + j))))))))] ++ bkM AD cY MV) (va_A ([(x0, .inr (7, [.ref (AD 0), .ref qM, .ref qd, .ref qr_, .ref qT, .ref qb, .ref qL, .int go])), (AD 0, .inr (5, [.int cnt, .ref (AD 1), .ref (AD 8)])), (AD 1, .inl (cY 2, 6, .inr (.inr (.inr (.inr (fun j => some (AD (2 + j))))))))] ++ bkM AD cY MV) sz) (X7_patch_x cnt go move value what)) (va_A ([(x0, .inr (7, [.ref (AD 0), .ref qM, .ref qd, .ref qr_, .ref qT, .ref qb, .ref qL, .int go])), (AD 0, .inr (5, [.int cnt, .ref (AD 1), .ref (AD 8)])), (AD 1, .inl (cY 2, 6, .inr (.inr (.inr (.inr (fun j => some (AD (2 + j))))))))] ++ bkM AD cY MV) sz)) 4 24 (va_A ([(x0, .inr (7, [.ref (AD 0), .ref qM, .ref qd, .ref qr_, .ref qT, .ref qb, .ref qL, .int go])), (AD 0, .inr (5, [.int cnt, .ref (AD 1), .ref (AD 8)])), (AD 1, .inl (cY 2, 6, .inr (.inr (.inr (.inr (fun j => some (AD (2 + j))))))))] ++ bkM AD cY MV) sz) := by
  refine vx_ofW (cc := cX7_patch) (maxL := 5) (ret := (some .int)) (by decide) rfl ?_
  intro p e s m args below meth c s₁ B hml ht0 hv
  obtain ⟨rfl, hsz, hP, hK, hN, hD0, xn, xt, xz⟩ := hv
  have hx := B.exec
  have hb := B.bytes
  have hr := B.returns
  have hts := atoms_spec (ws := wsX7_patch) B.pre
  have hown : s.vm.findClass RX7 = some m.cls := findClass_of_methodNamed B.named
  have hlocks := B.notSynchronized
  subst hsz
  have hD := hD0.self (sz := s.heap.size)
  generalize hAe : va_A ([(x0, .inr (7, [.ref (AD 0), .ref qM, .ref qd, .ref qr_, .ref qT, .ref qb, .ref qL, .int go])), (AD 0, .inr (5, [.int cnt, .ref (AD 1), .ref (AD 8)])), (AD 1, .inl (cY 2, 6, .inr (.inr (.inr (.inr (fun j => some (AD (2 + j))))))))] ++ bkM AD cY MV) s.heap.size = A at hD xz ⊢
  have hA : ∀ q : Nat, s.heap.size ≤ q → A q := fun q h => by rw [← hAe]; exact Or.inr h
  have hS : va_S A s.heap s.heap [] := va_S.rf
  have hP : va_P (dC, dI) vwCl ([(x0, .inr (7, [.ref (AD 0), .ref qM, .ref qd, .ref qr_, .ref qT, .ref qb, .ref qL, .int go])), (AD 0, .inr (5, [.int cnt, .ref (AD 1), .ref (AD 8)])), (AD 1, .inl (cY 2, 6, .inr (.inr (.inr (.inr (fun j => some (AD (2 + j))))))))] ++ bkM AD cY MV) s.heap := hP
  have hl := lv_entry ([.ref x0, .int move, .int what, .int value]) (n := 5) (Nat.le_of_ble_eq_true rfl)
  rw [lg_entry_eq]
  generalize (lg_sl ([.ref x0, .int move, .int what, .int value]) ++ List.replicate (5 - (lg_sl ([.ref x0, .int move, .int what, .int value])).length) Slot.unset).toArray = ls at hl ⊢
  have hl : lv_has ls 5 [(0, .ref x0), (1, .int move), (2, .int what), (3, .int value)] := hl
  refine lv_aload_n hx hb dX7_patch_0 rfl (lv_at hl 0 rfl) ?_
  refine lv_iload_n hx hb dX7_patch_1 rfl (lv_at hl 1 rfl) ?_
  have hPc := hP.sub (ws' := [(x0, .inr (7, [.ref (AD 0), .ref qM, .ref qd, .ref qr_, .ref qT, .ref qb, .ref qL, .int go])), (AD 0, .inr (5, [.int cnt, .ref (AD 1), .ref (AD 8)]))]) [0, 1] rfl
  have hDc := hD.sub (ws' := [(x0, .inr (7, [.ref (AD 0), .ref qM, .ref qd, .ref qr_, .ref qT, .ref qb, .ref qL, .int go])), (AD 0, .inr (5, [.int cnt, .ref (AD 1), .ref (AD 8)]))]) [0, 1] (by decide) rfl
  have hFc := va_free (wc := [(x0, .inr (7, [.ref (AD 0), .ref qM, .ref qd, .ref qr_, .ref qT, .ref qb, .ref qL, .int go])), (AD 0, .inr (5, [.int cnt, .ref (AD 1), .ref (AD 8)]))]) hD hS hA [0, 1] rfl
  refine vx_callv (vx_runV (As := [.int move]) (rest := []) ⟨hx, hb, hml, hown, hts⟩ (c_X7_needMove l dC dI cY x0 qM qd qr_ qT qb qL go AD cnt move hst s.heap.size) (cwV 1 hts gX7_patch_X7_needMove rfl rfl rfl (by decide +kernel) ⟨Nat.le_of_ble_eq_true rfl, Nat.le_of_ble_eq_true rfl⟩) ⟨blindX, va_recv hK hPc (ci := 7) (q0 := 0) rfl rfl, fun U hU hW => ⟨rfl, xPre_of hPc hK hN hDc xn xt xz hS hFc U hU hW⟩⟩ rfl rfl hl.1 rfl (lv_room (Nat.le_of_ble_eq_true rfl)) dX7_patch_2 ⟨Nat.le_of_ble_eq_true rfl, Nat.le_of_ble_eq_true rfl⟩) hS (fun q _ h => hFc q h) hFc (fun q _ h => hFc q h) (fun E9 ce9 q9 u t H1 locs1 ht hvm c_1 hB hz1 hk1 hS1 hce hcv hcl => ?_) (fun u t H1 locs ht hvm c_1 hB hz1 hk1 hS1 => ?_)
  · obtain ⟨hE9, hB⟩ := hB
    have hB : wPost (dC, dI) [(x0, .inr (7, [.ref (AD 0), .ref qM, .ref qd, .ref qr_, .ref qT, .ref qb, .ref qL, .int go])), (AD 0, .inr (5, [.int cnt, .ref (AD 1), .ref (AD 8)]))] (va_A [(x0, .inr (7, [.ref (AD 0), .ref qM, .ref qd, .ref qr_, .ref qT, .ref qb, .ref qL, .int go])), (AD 0, .inr (5, [.int cnt, .ref (AD 1), .ref (AD 8)]))] s.heap.size) () t := hB
    have hJ := wJoinQ (wr := [(AD 1, .inl (cY 2, 6, .inr (.inr (.inr (.inr (fun j => some (AD (2 + j))))))))]) (w1 := [(x0, .inr (7, [.ref (AD 0), .ref qM, .ref qd, .ref qr_, .ref qT, .ref qb, .ref qL, .int go])), (AD 0, .inr (5, [.int cnt, .ref (AD 1), .ref (AD 8)]))]) (wn := [(x0, .inr (7, [.ref (AD 0), .ref qM, .ref qd, .ref qr_, .ref qT, .ref qb, .ref qL, .int go])), (AD 0, .inr (5, [.int cnt, .ref (AD 1), .ref (AD 8)])), (AD 1, .inl (cY 2, 6, .inr (.inr (.inr (.inr (fun j => some (AD (2 + j))))))))]) hP hD [0, 1] [2] rfl rfl (by decide) (by decide) hk1 hFc hB ht [1, 2, 0] rfl (by decide)
    obtain ⟨hP9, hD9⟩ := hJ
    have hx9 : (X7_patch_x cnt go move value what) = (X7_needMove_x cnt move) := by rw [X7_patch_x, if_neg c_1]
    exact vx_out (fun x h => (ht0 x h).elim) hlocks hce hcv hcl (fun t9 ht9 hW9 => ⟨(), by rw [hx9]; exact c_1, ⟨by rw [hx9]; exact hE9, by rw [ht9]; exact hP9, hD9⟩, hS1.F ht9⟩) hS1.2.2 (Nat.le_of_ble_eq_true rfl) (Nat.le_of_ble_eq_true rfl)
  have hJ := wJoinQ (wr := [(AD 1, .inl (cY 2, 6, .inr (.inr (.inr (.inr (fun j => some (AD (2 + j))))))))]) (w1 := [(x0, .inr (7, [.ref (AD 0), .ref qM, .ref qd, .ref qr_, .ref qT, .ref qb, .ref qL, .int go])), (AD 0, .inr (5, [.int cnt, .ref (AD 1), .ref (AD 8)]))]) (wn := [(x0, .inr (7, [.ref (AD 0), .ref qM, .ref qd, .ref qr_, .ref qT, .ref qb, .ref qL, .int go])), (AD 0, .inr (5, [.int cnt, .ref (AD 1), .ref (AD 8)])), (AD 1, .inl (cY 2, 6, .inr (.inr (.inr (.inr (fun j => some (AD (2 + j))))))))]) hP hD [0, 1] [2] rfl rfl (by decide) (by decide) hk1 hFc hB ht [1, 2, 0] rfl (by decide)
  clear hB hk1 hFc hPc hDc hP hD hS hz1 hvm ht t
  obtain ⟨hP1, hD1⟩ := hJ
  generalize H1 = H at hP1 hS1 ⊢
  have hP : va_P (dC, dI) vwCl ([(x0, .inr (7, [.ref (AD 0), .ref qM, .ref qd, .ref qr_, .ref qT, .ref qb, .ref qL, .int go])), (AD 0, .inr (5, [.int cnt, .ref (AD 1), .ref (AD 8)])), (AD 1, .inl (cY 2, 6, .inr (.inr (.inr (.inr (fun j => some (AD (2 + j))))))))] ++ bkM AD cY MV) H := hP1
  have hD : va_D A ([(x0, .inr (7, [.ref (AD 0), .ref qM, .ref qd, .ref qr_, .ref qT, .ref qb, .ref qL, .int go])), (AD 0, .inr (5, [.int cnt, .ref (AD 1), .ref (AD 8)])), (AD 1, .inl (cY 2, 6, .inr (.inr (.inr (.inr (fun j => some (AD (2 + j))))))))] ++ bkM AD cY MV) := hD1
  have hS := hS1
  clear hP1 hD1 hS1
  refine lv_iload_n hx hb dX7_patch_5 rfl (lv_at hl 2 rfl) ?_
  refine lv_iconst (v := 0) hx hb dX7_patch_6 (by decide) ?_
  refine lv_iconst (v := 4) hx hb dX7_patch_7 (by decide) ?_
  have hPc := hP.sub (ws' := []) [] rfl
  have hDc := hD.sub (ws' := []) [] (by decide) rfl
  have hFc := va_free (wc := []) hD hS hA [] rfl
  refine vx_callv (vx_runS (As := [.int what, .int 0, .int 4]) (rest := []) ⟨hx, hb, hml, hown, hts⟩ (c_X7_needWithin l dC dI cY what 0 4 hst H.size) (va_cwS 3 hts gX7_patch_X7_needWithin rfl rfl rfl (by decide +kernel) ⟨Nat.le_of_ble_eq_true rfl, Nat.le_of_ble_eq_true rfl⟩) ⟨blindX, fun U hU hW => ⟨rfl, xPre_of hPc hK hN hDc xn xt xz hS hFc U hU hW⟩⟩ rfl rfl hl.1 rfl (lv_room (Nat.le_of_ble_eq_true rfl)) dX7_patch_8 ⟨Nat.le_of_ble_eq_true rfl, Nat.le_of_ble_eq_true rfl⟩) hS (fun q _ h => hFc q h) hFc (fun q _ h => hFc q h) (fun E9 ce9 q9 u t H1 locs1 ht hvm c_2 hB hz1 hk1 hS1 hce hcv hcl => ?_) (fun u t H1 locs ht hvm c_2 hB hz1 hk1 hS1 => ?_)
  · obtain ⟨hE9, hB⟩ := hB
    have hB : wPost (dC, dI) [] (va_A [] H.size) () t := hB
    have hJ := wJoinQ (wr := [(x0, .inr (7, [.ref (AD 0), .ref qM, .ref qd, .ref qr_, .ref qT, .ref qb, .ref qL, .int go])), (AD 0, .inr (5, [.int cnt, .ref (AD 1), .ref (AD 8)])), (AD 1, .inl (cY 2, 6, .inr (.inr (.inr (.inr (fun j => some (AD (2 + j))))))))]) (w1 := []) (wn := [(x0, .inr (7, [.ref (AD 0), .ref qM, .ref qd, .ref qr_, .ref qT, .ref qb, .ref qL, .int go])), (AD 0, .inr (5, [.int cnt, .ref (AD 1), .ref (AD 8)])), (AD 1, .inl (cY 2, 6, .inr (.inr (.inr (.inr (fun j => some (AD (2 + j))))))))]) hP hD [] [0, 1, 2] rfl rfl (by decide) (by decide) hk1 hFc hB ht [0, 1, 2] rfl (by decide)
    obtain ⟨hP9, hD9⟩ := hJ
    have hx9 : (X7_patch_x cnt go move value what) = (X7_needWithin_x 4 0 what) := by rw [X7_patch_x, if_pos c_1, if_neg c_2]
    exact vx_out (fun x h => (ht0 x h).elim) hlocks hce hcv hcl (fun t9 ht9 hW9 => ⟨(), by rw [hx9]; exact c_2, ⟨by rw [hx9]; exact hE9, by rw [ht9]; exact hP9, hD9⟩, hS1.F ht9⟩) hS1.2.2 (Nat.le_of_ble_eq_true rfl) (Nat.le_of_ble_eq_true rfl)
  have hJ := wJoinQ (wr := [(x0, .inr (7, [.ref (AD 0), .ref qM, .ref qd, .ref qr_, .ref qT, .ref qb, .ref qL, .int go])), (AD 0, .inr (5, [.int cnt, .ref (AD 1), .ref (AD 8)])), (AD 1, .inl (cY 2, 6, .inr (.inr (.inr (.inr (fun j => some (AD (2 + j))))))))]) (w1 := []) (wn := [(x0, .inr (7, [.ref (AD 0), .ref qM, .ref qd, .ref qr_, .ref qT, .ref qb, .ref qL, .int go])), (AD 0, .inr (5, [.int cnt, .ref (AD 1), .ref (AD 8)])), (AD 1, .inl (cY 2, 6, .inr (.inr (.inr (.inr (fun j => some (AD (2 + j))))))))]) hP hD [] [0, 1, 2] rfl rfl (by decide) (by decide) hk1 hFc hB ht [0, 1, 2] rfl (by decide)
  clear hB hk1 hFc hPc hDc hP hD hS hz1 hvm ht t
  obtain ⟨hP1, hD1⟩ := hJ
  generalize H1 = H at hP1 hS1 ⊢
  have hP : va_P (dC, dI) vwCl ([(x0, .inr (7, [.ref (AD 0), .ref qM, .ref qd, .ref qr_, .ref qT, .ref qb, .ref qL, .int go])), (AD 0, .inr (5, [.int cnt, .ref (AD 1), .ref (AD 8)])), (AD 1, .inl (cY 2, 6, .inr (.inr (.inr (.inr (fun j => some (AD (2 + j))))))))] ++ bkM AD cY MV) H := hP1
  have hD : va_D A ([(x0, .inr (7, [.ref (AD 0), .ref qM, .ref qd, .ref qr_, .ref qT, .ref qb, .ref qL, .int go])), (AD 0, .inr (5, [.int cnt, .ref (AD 1), .ref (AD 8)])), (AD 1, .inl (cY 2, 6, .inr (.inr (.inr (.inr (fun j => some (AD (2 + j))))))))] ++ bkM AD cY MV) := hD1
  have hS := hS1
  clear hP1 hD1 hS1
  refine lv_iload_n hx hb dX7_patch_11 rfl (lv_at hl 3 rfl) ?_
  refine lv_iconst (v := 0) hx hb dX7_patch_12 (by decide) ?_
  refine lv_bipush (v := 60) hx hb dX7_patch_13 (by decide) ?_
  have hPc := hP.sub (ws' := []) [] rfl
  have hDc := hD.sub (ws' := []) [] (by decide) rfl
  have hFc := va_free (wc := []) hD hS hA [] rfl
  refine vx_callv (vx_runS (As := [.int value, .int 0, .int 60]) (rest := []) ⟨hx, hb, hml, hown, hts⟩ (c_X7_needWithin l dC dI cY value 0 60 hst H.size) (va_cwS 3 hts gX7_patch_X7_needWithin rfl rfl rfl (by decide +kernel) ⟨Nat.le_of_ble_eq_true rfl, Nat.le_of_ble_eq_true rfl⟩) ⟨blindX, fun U hU hW => ⟨rfl, xPre_of hPc hK hN hDc xn xt xz hS hFc U hU hW⟩⟩ rfl rfl hl.1 rfl (lv_room (Nat.le_of_ble_eq_true rfl)) dX7_patch_15 ⟨Nat.le_of_ble_eq_true rfl, Nat.le_of_ble_eq_true rfl⟩) hS (fun q _ h => hFc q h) hFc (fun q _ h => hFc q h) (fun E9 ce9 q9 u t H1 locs1 ht hvm c_3 hB hz1 hk1 hS1 hce hcv hcl => ?_) (fun u t H1 locs ht hvm c_3 hB hz1 hk1 hS1 => ?_)
  · obtain ⟨hE9, hB⟩ := hB
    have hB : wPost (dC, dI) [] (va_A [] H.size) () t := hB
    have hJ := wJoinQ (wr := [(x0, .inr (7, [.ref (AD 0), .ref qM, .ref qd, .ref qr_, .ref qT, .ref qb, .ref qL, .int go])), (AD 0, .inr (5, [.int cnt, .ref (AD 1), .ref (AD 8)])), (AD 1, .inl (cY 2, 6, .inr (.inr (.inr (.inr (fun j => some (AD (2 + j))))))))]) (w1 := []) (wn := [(x0, .inr (7, [.ref (AD 0), .ref qM, .ref qd, .ref qr_, .ref qT, .ref qb, .ref qL, .int go])), (AD 0, .inr (5, [.int cnt, .ref (AD 1), .ref (AD 8)])), (AD 1, .inl (cY 2, 6, .inr (.inr (.inr (.inr (fun j => some (AD (2 + j))))))))]) hP hD [] [0, 1, 2] rfl rfl (by decide) (by decide) hk1 hFc hB ht [0, 1, 2] rfl (by decide)
    obtain ⟨hP9, hD9⟩ := hJ
    have hx9 : (X7_patch_x cnt go move value what) = (X7_needWithin_x 60 0 value) := by rw [X7_patch_x, if_pos c_1, if_pos c_2, if_neg c_3]
    exact vx_out (fun x h => (ht0 x h).elim) hlocks hce hcv hcl (fun t9 ht9 hW9 => ⟨(), by rw [hx9]; exact c_3, ⟨by rw [hx9]; exact hE9, by rw [ht9]; exact hP9, hD9⟩, hS1.F ht9⟩) hS1.2.2 (Nat.le_of_ble_eq_true rfl) (Nat.le_of_ble_eq_true rfl)
  have hJ := wJoinQ (wr := [(x0, .inr (7, [.ref (AD 0), .ref qM, .ref qd, .ref qr_, .ref qT, .ref qb, .ref qL, .int go])), (AD 0, .inr (5, [.int cnt, .ref (AD 1), .ref (AD 8)])), (AD 1, .inl (cY 2, 6, .inr (.inr (.inr (.inr (fun j => some (AD (2 + j))))))))]) (w1 := []) (wn := [(x0, .inr (7, [.ref (AD 0), .ref qM, .ref qd, .ref qr_, .ref qT, .ref qb, .ref qL, .int go])), (AD 0, .inr (5, [.int cnt, .ref (AD 1), .ref (AD 8)])), (AD 1, .inl (cY 2, 6, .inr (.inr (.inr (.inr (fun j => some (AD (2 + j))))))))]) hP hD [] [0, 1, 2] rfl rfl (by decide) (by decide) hk1 hFc hB ht [0, 1, 2] rfl (by decide)
  clear hB hk1 hFc hPc hDc hP hD hS hz1 hvm ht t
  obtain ⟨hP1, hD1⟩ := hJ
  generalize H1 = H at hP1 hS1 ⊢
  have hP : va_P (dC, dI) vwCl ([(x0, .inr (7, [.ref (AD 0), .ref qM, .ref qd, .ref qr_, .ref qT, .ref qb, .ref qL, .int go])), (AD 0, .inr (5, [.int cnt, .ref (AD 1), .ref (AD 8)])), (AD 1, .inl (cY 2, 6, .inr (.inr (.inr (.inr (fun j => some (AD (2 + j))))))))] ++ bkM AD cY MV) H := hP1
  have hD : va_D A ([(x0, .inr (7, [.ref (AD 0), .ref qM, .ref qd, .ref qr_, .ref qT, .ref qb, .ref qL, .int go])), (AD 0, .inr (5, [.int cnt, .ref (AD 1), .ref (AD 8)])), (AD 1, .inl (cY 2, 6, .inr (.inr (.inr (.inr (fun j => some (AD (2 + j))))))))] ++ bkM AD cY MV) := hD1
  have hS := hS1
  clear hP1 hD1 hS1
  refine lv_aload_n hx hb dX7_patch_18 rfl (lv_at hl 0 rfl) ?_
  have hPc := hP.sub (ws' := [(x0, .inr (7, [.ref (AD 0), .ref qM, .ref qd, .ref qr_, .ref qT, .ref qb, .ref qL, .int go]))]) [0] rfl
  have hDc := hD.sub (ws' := [(x0, .inr (7, [.ref (AD 0), .ref qM, .ref qd, .ref qr_, .ref qT, .ref qb, .ref qL, .int go]))]) [0] (by decide) rfl
  have hFc := va_free (wc := [(x0, .inr (7, [.ref (AD 0), .ref qM, .ref qd, .ref qr_, .ref qT, .ref qb, .ref qL, .int go]))]) hD hS hA [0] rfl
  refine vx_callv (vx_runV (As := []) (rest := []) ⟨hx, hb, hml, hown, hts⟩ (c_X7_needNoRound l dC dI cY x0 qM qd qr_ qT qb qL go (AD 0) hst H.size) (cwV 0 hts gX7_patch_X7_needNoRound rfl rfl rfl (by decide +kernel) ⟨Nat.le_of_ble_eq_true rfl, Nat.le_of_ble_eq_true rfl⟩) ⟨blindX, va_recv hK hPc (ci := 7) (q0 := 0) rfl rfl, fun U hU hW => ⟨rfl, xPre_of hPc hK hN hDc xn xt xz hS hFc U hU hW⟩⟩ rfl rfl hl.1 rfl (lv_room (Nat.le_of_ble_eq_true rfl)) dX7_patch_19 ⟨Nat.le_of_ble_eq_true rfl, Nat.le_of_ble_eq_true rfl⟩) hS (fun q _ h => hFc q h) hFc (fun q _ h => hFc q h) (fun E9 ce9 q9 u t H1 locs1 ht hvm c_4 hB hz1 hk1 hS1 hce hcv hcl => ?_) (fun u t H1 locs ht hvm c_4 hB hz1 hk1 hS1 => ?_)
  · obtain ⟨hE9, hB⟩ := hB
    have hB : wPost (dC, dI) [(x0, .inr (7, [.ref (AD 0), .ref qM, .ref qd, .ref qr_, .ref qT, .ref qb, .ref qL, .int go]))] (va_A [(x0, .inr (7, [.ref (AD 0), .ref qM, .ref qd, .ref qr_, .ref qT, .ref qb, .ref qL, .int go]))] H.size) () t := hB
    have hJ := wJoinQ (wr := [(AD 0, .inr (5, [.int cnt, .ref (AD 1), .ref (AD 8)])), (AD 1, .inl (cY 2, 6, .inr (.inr (.inr (.inr (fun j => some (AD (2 + j))))))))]) (w1 := [(x0, .inr (7, [.ref (AD 0), .ref qM, .ref qd, .ref qr_, .ref qT, .ref qb, .ref qL, .int go]))]) (wn := [(x0, .inr (7, [.ref (AD 0), .ref qM, .ref qd, .ref qr_, .ref qT, .ref qb, .ref qL, .int go])), (AD 0, .inr (5, [.int cnt, .ref (AD 1), .ref (AD 8)])), (AD 1, .inl (cY 2, 6, .inr (.inr (.inr (.inr (fun j => some (AD (2 + j))))))))]) hP hD [0] [1, 2] rfl rfl (by decide) (by decide) hk1 hFc hB ht [2, 0, 1] rfl (by decide)
    obtain ⟨hP9, hD9⟩ := hJ
    have hx9 : (X7_patch_x cnt go move value what) = (X7_needNoRound_x go) := by rw [X7_patch_x, if_pos c_1, if_pos c_2, if_pos c_3, if_neg c_4]
    exact vx_out (fun x h => (ht0 x h).elim) hlocks hce hcv hcl (fun t9 ht9 hW9 => ⟨(), by rw [hx9]; exact c_4, ⟨by rw [hx9]; exact hE9, by rw [ht9]; exact hP9, hD9⟩, hS1.F ht9⟩) hS1.2.2 (Nat.le_of_ble_eq_true rfl) (Nat.le_of_ble_eq_true rfl)
  have hJ := wJoinQ (wr := [(AD 0, .inr (5, [.int cnt, .ref (AD 1), .ref (AD 8)])), (AD 1, .inl (cY 2, 6, .inr (.inr (.inr (.inr (fun j => some (AD (2 + j))))))))]) (w1 := [(x0, .inr (7, [.ref (AD 0), .ref qM, .ref qd, .ref qr_, .ref qT, .ref qb, .ref qL, .int go]))]) (wn := [(x0, .inr (7, [.ref (AD 0), .ref qM, .ref qd, .ref qr_, .ref qT, .ref qb, .ref qL, .int go])), (AD 0, .inr (5, [.int cnt, .ref (AD 1), .ref (AD 8)])), (AD 1, .inl (cY 2, 6, .inr (.inr (.inr (.inr (fun j => some (AD (2 + j))))))))]) hP hD [0] [1, 2] rfl rfl (by decide) (by decide) hk1 hFc hB ht [2, 0, 1] rfl (by decide)
  clear hB hk1 hFc hPc hDc hP hD hS hz1 hvm ht t
  obtain ⟨hP1, hD1⟩ := hJ
  generalize H1 = H at hP1 hS1 ⊢
  have hP : va_P (dC, dI) vwCl ([(x0, .inr (7, [.ref (AD 0), .ref qM, .ref qd, .ref qr_, .ref qT, .ref qb, .ref qL, .int go])), (AD 0, .inr (5, [.int cnt, .ref (AD 1), .ref (AD 8)])), (AD 1, .inl (cY 2, 6, .inr (.inr (.inr (.inr (fun j => some (AD (2 + j))))))))] ++ bkM AD cY MV) H := hP1
  have hD : va_D A ([(x0, .inr (7, [.ref (AD 0), .ref qM, .ref qd, .ref qr_, .ref qT, .ref qb, .ref qL, .int go])), (AD 0, .inr (5, [.int cnt, .ref (AD 1), .ref (AD 8)])), (AD 1, .inl (cY 2, 6, .inr (.inr (.inr (.inr (fun j => some (AD (2 + j))))))))] ++ bkM AD cY MV) := hD1
  have hS := hS1
  clear hP1 hD1 hS1
  refine lv_aload_n hx hb dX7_patch_22 rfl (lv_at hl 0 rfl) ?_
  refine va_get (D := (dC, dI)) (ci := 7) (v := .ref (AD 0)) (C := RX7) (T := TX7) (N := 8) hx hb hts inw_X7_patch_X7 hown hK hP 0 rfl rfl 0 (by decide) (hts (.fieldLink RX7 10 "DuelFrames" "moves" "LDuelFrames$MoveList;") (List.mem_of_getElem? (i := 1) rfl)) (fun _ h9 => h9) rfl dX7_patch_23 ?_
  refine lv_iload_n hx hb dX7_patch_26 rfl (lv_at hl 1 rfl) ?_
  have hPc := hP.sub (ws' := [(AD 0, .inr (5, [.int cnt, .ref (AD 1), .ref (AD 8)])), (AD 1, .inl (cY 2, 6, .inr (.inr (.inr (.inr (fun j => some (AD (2 + j))))))))]) [1, 2] rfl
  refine va_csr (W.runV (As := [.int move]) (rest := []) ⟨hx, hb, hml, hown, hts⟩ (c_X5_at l dC dI cY AD cnt move) (cwV 1 hts gX7_patch_X5_at rfl rfl rfl (by decide +kernel) ⟨Nat.le_of_ble_eq_true rfl, Nat.le_of_ble_eq_true rfl⟩) ⟨blindR, va_recv hK hPc (ci := 5) (q0 := 0) rfl rfl, fun U hU hW => ⟨rfl, rPre_of hPc hK hN U hU hW⟩⟩ rfl rfl hl.1 rfl (lv_room (Nat.le_of_ble_eq_true rfl)) dX7_patch_27 ⟨Nat.le_of_ble_eq_true rfl, Nat.le_of_ble_eq_true rfl⟩) (fun r hw => ?_)
  subst r
  refine lv_iload_n hx hb dX7_patch_30 rfl (lv_at hl 2 rfl) ?_
  have hPc := bk_move hP (mi_lt move)
  refine vp_callSi (W.runV (As := [.int what]) (rest := []) ⟨hx, hb, hml, hown, hts⟩ (c_X4_trait l dC dI cY (AD (2 + (mi move))) (AD (9 + (mi move))) (AD (16 + (mi move))) (MV (mi move)) what) (cwV 1 hts gX7_patch_X4_trait rfl rfl rfl (by decide +kernel) ⟨Nat.le_of_ble_eq_true rfl, Nat.le_of_ble_eq_true rfl⟩) ⟨blindR, va_recv hK hPc (ci := 4) (q0 := 0) rfl rfl, fun U hU hW => ⟨rfl, rPre_of hPc hK hN U hU hW⟩⟩ rfl rfl hl.1 rfl (lv_room (Nat.le_of_ble_eq_true rfl)) dX7_patch_31 ⟨Nat.le_of_ble_eq_true rfl, Nat.le_of_ble_eq_true rfl⟩) (fun r_5 hw => ?_)
  subst hw
  refine lv_istore (lv' := [(4, .int (X4_trait_r (MV (mi move)) what)), (0, .ref x0), (1, .int move), (2, .int what), (3, .int value)]) hx hb dX7_patch_34 hl (by decide) rfl (fun ls hl => ?_)
  refine lv_aload_n hx hb dX7_patch_36 rfl (lv_at hl 1 rfl) ?_
  refine va_get (D := (dC, dI)) (ci := 7) (v := .ref (AD 0)) (C := RX7) (T := TX7) (N := 8) hx hb hts inw_X7_patch_X7 hown hK hP 0 rfl rfl 0 (by decide) (hts (.fieldLink RX7 10 "DuelFrames" "moves" "LDuelFrames$MoveList;") (List.mem_of_getElem? (i := 1) rfl)) (fun _ h9 => h9) rfl dX7_patch_37 ?_
  refine lv_iload_n hx hb dX7_patch_40 rfl (lv_at hl 2 rfl) ?_
  have hPc := hP.sub (ws' := [(AD 0, .inr (5, [.int cnt, .ref (AD 1), .ref (AD 8)])), (AD 1, .inl (cY 2, 6, .inr (.inr (.inr (.inr (fun j => some (AD (2 + j))))))))]) [1, 2] rfl
  refine va_csr (W.runV (As := [.int move]) (rest := []) ⟨hx, hb, hml, hown, hts⟩ (c_X5_at l dC dI cY AD cnt move) (cwV 1 hts gX7_patch_X5_at rfl rfl rfl (by decide +kernel) ⟨Nat.le_of_ble_eq_true rfl, Nat.le_of_ble_eq_true rfl⟩) ⟨blindR, va_recv hK hPc (ci := 5) (q0 := 0) rfl rfl, fun U hU hW => ⟨rfl, rPre_of hPc hK hN U hU hW⟩⟩ rfl rfl hl.1 rfl (lv_room (Nat.le_of_ble_eq_true rfl)) dX7_patch_41 ⟨Nat.le_of_ble_eq_true rfl, Nat.le_of_ble_eq_true rfl⟩) (fun r hw => ?_)
  subst r
  refine lv_iload_n hx hb dX7_patch_44 rfl (lv_at hl 3 rfl) ?_
  refine lv_iload_n hx hb dX7_patch_45 rfl (lv_at hl 4 rfl) ?_
  have hPc := bk_move hP (mi_lt move)
  have hDc := bk_D (X := [(x0, .inr (7, [.ref (AD 0), .ref qM, .ref qd, .ref qr_, .ref qT, .ref qb, .ref qL, .int go])), (AD 0, .inr (5, [.int cnt, .ref (AD 1), .ref (AD 8)])), (AD 1, .inl (cY 2, 6, .inr (.inr (.inr (.inr (fun j => some (AD (2 + j))))))))]) (mi_lt move) hD
  have hFc := bk_F (X := [(x0, .inr (7, [.ref (AD 0), .ref qM, .ref qd, .ref qr_, .ref qT, .ref qb, .ref qL, .int go])), (AD 0, .inr (5, [.int cnt, .ref (AD 1), .ref (AD 8)])), (AD 1, .inl (cY 2, 6, .inr (.inr (.inr (.inr (fun j => some (AD (2 + j))))))))]) (mi_lt move) hD hS hA
  refine va_callv (va_runV (As := [.int what, .int value]) (rest := []) ⟨hx, hb, hml, hown, hts⟩ (c_X4_setTrait l dC dI cY (AD (2 + (mi move))) (AD (9 + (mi move))) (AD (16 + (mi move))) ((MV (mi move)) 0) ((MV (mi move)) 1) ((MV (mi move)) 2) ((MV (mi move)) 3) ((MV (mi move)) 4) ((MV (mi move)) 5) (fun k => (MV (mi move)) (6 + k)) (fun k => (MV (mi move)) (11 + k)) what value H.size) (cwV 2 hts gX7_patch_X4_setTrait rfl rfl rfl (by decide +kernel) ⟨Nat.le_of_ble_eq_true rfl, Nat.le_of_ble_eq_true rfl⟩) ⟨blindW, va_recv hK hPc (ci := 4) (q0 := 0) rfl rfl, fun U hU hW => ⟨rfl, wPre_of hPc hK hN hDc U hU hW⟩⟩ rfl rfl hl.1 rfl (lv_room (Nat.le_of_ble_eq_true rfl)) dX7_patch_46 ⟨Nat.le_of_ble_eq_true rfl, Nat.le_of_ble_eq_true rfl⟩) hS (fun q _ h => hFc q h) hFc (fun u t H1 locs ht hvm hw hB hz1 hk1 hS1 => ?_)
  have hB2 : wPost (dC, dI) (mvC (AD (2 + (mi move))) (AD (9 + (mi move))) (AD (16 + (mi move))) cY (rowM ((MV (mi move)) 0) ((MV (mi move)) 1) ((MV (mi move)) 2) ((MV (mi move)) 3) ((MV (mi move)) 4) ((MV (mi move)) 5) (X4_setTrait_w1 (fun k => (MV (mi move)) (6 + k)) value what) (fun k => (MV (mi move)) (11 + k)))) (va_A (mvC (AD (2 + (mi move))) (AD (9 + (mi move))) (AD (16 + (mi move))) cY (MV (mi move))) H.size) u t := mvRow hB
  have hJ := bkJoin (X := [(x0, .inr (7, [.ref (AD 0), .ref qM, .ref qd, .ref qr_, .ref qT, .ref qb, .ref qL, .int go])), (AD 0, .inr (5, [.int cnt, .ref (AD 1), .ref (AD 8)])), (AD 1, .inl (cY 2, 6, .inr (.inr (.inr (.inr (fun j => some (AD (2 + j))))))))]) (mi_lt move) hP hD hk1 hB2 ht
  clear hB2 hB hk1 hFc hPc hDc hP hD hS hz1 hvm ht t
  obtain ⟨hP1, hD1⟩ := hJ
  generalize H1 = H at hP1 hS1 ⊢
  have hP : va_P (dC, dI) vwCl ([(x0, .inr (7, [.ref (AD 0), .ref qM, .ref qd, .ref qr_, .ref qT, .ref qb, .ref qL, .int go])), (AD 0, .inr (5, [.int cnt, .ref (AD 1), .ref (AD 8)])), (AD 1, .inl (cY 2, 6, .inr (.inr (.inr (.inr (fun j => some (AD (2 + j))))))))] ++ bkM AD cY (mvS MV (mi move) (rowM ((MV (mi move)) 0) ((MV (mi move)) 1) ((MV (mi move)) 2) ((MV (mi move)) 3) ((MV (mi move)) 4) ((MV (mi move)) 5) (X4_setTrait_w1 (fun k => (MV (mi move)) (6 + k)) value what) (fun k => (MV (mi move)) (11 + k))))) H := hP1
  have hD : va_D A ([(x0, .inr (7, [.ref (AD 0), .ref qM, .ref qd, .ref qr_, .ref qT, .ref qb, .ref qL, .int go])), (AD 0, .inr (5, [.int cnt, .ref (AD 1), .ref (AD 8)])), (AD 1, .inl (cY 2, 6, .inr (.inr (.inr (.inr (fun j => some (AD (2 + j))))))))] ++ bkM AD cY (mvS MV (mi move) (rowM ((MV (mi move)) 0) ((MV (mi move)) 1) ((MV (mi move)) 2) ((MV (mi move)) 3) ((MV (mi move)) 4) ((MV (mi move)) 5) (X4_setTrait_w1 (fun k => (MV (mi move)) (6 + k)) value what) (fun k => (MV (mi move)) (11 + k))))) := hD1
  have hS := hS1
  clear hP1 hD1 hS1
  refine lv_iload hx hb dX7_patch_49 (lv_at hl 0 rfl) ?_
  have hx9 : (X7_patch_x cnt go move value what) = 0 := by rw [X7_patch_x, if_pos c_1, if_pos c_2, if_pos c_3, if_pos c_4]
  have hP9 : va_P (dC, dI) vwCl ([(x0, .inr (7, [.ref (AD 0), .ref qM, .ref qd, .ref qr_, .ref qT, .ref qb, .ref qL, .int go])), (AD 0, .inr (5, [.int cnt, .ref (AD 1), .ref (AD 8)])), (AD 1, .inl (cY 2, 6, .inr (.inr (.inr (.inr (fun j => some (AD (2 + j))))))))] ++ bkM AD cY (mvS MV (mi move) (rowM ((MV (mi move)) 0) ((MV (mi move)) 1) ((MV (mi move)) 2) ((MV (mi move)) 3) ((MV (mi move)) 4) ((MV (mi move)) 5) (X4_setTrait_w1 (fun k => (MV (mi move)) (6 + k)) value what) (fun k => (MV (mi move)) (11 + k))))) H := hP
  have hD9 : va_D A ([(x0, .inr (7, [.ref (AD 0), .ref qM, .ref qd, .ref qr_, .ref qT, .ref qb, .ref qL, .int go])), (AD 0, .inr (5, [.int cnt, .ref (AD 1), .ref (AD 8)])), (AD 1, .inl (cY 2, 6, .inr (.inr (.inr (.inr (fun j => some (AD (2 + j))))))))] ++ bkM AD cY (mvS MV (mi move) (rowM ((MV (mi move)) 0) ((MV (mi move)) 1) ((MV (mi move)) 2) ((MV (mi move)) 3) ((MV (mi move)) 4) ((MV (mi move)) 5) (X4_setTrait_w1 (fun k => (MV (mi move)) (6 + k)) value what) (fun k => (MV (mi move)) (11 + k))))) := hD
  refine vx_ret ?_
  refine W.widen (k := 4) (n := 24) (Nat.le_of_ble_eq_true rfl) (Nat.le_of_ble_eq_true rfl) ?_
  exact W.iret (v := (X4_trait_r (MV (mi move)) what)) hx hb hr (fun t ht hW => ⟨⟨_, (), rfl, ⟨hx9, rfl⟩, wPost_of hP9 hD9 ht⟩, hS.F ht⟩) hS.2.2 dX7_patch_51
theorem inw_X7_cancel_X7 : ∀ w ∈ u_ws RX7 TX7 8, w ∈ wsX7_cancel := fun _ h => List.mem_cons_of_mem _ (List.mem_append_left _ (List.mem_append_left _ (List.mem_append_left _ (List.mem_append_left _ (List.mem_append_right _ h)))))
def X7_cancel_x (cnt : Int32) (go : Int32) (into : Int32) (move : Int32) : Int32 := (if (X7_needMove_x cnt move) = 0 then (if (X7_needMove_x cnt into) = 0 then (if (X7_needNoRound_x go) = 0 then 0 else (X7_needNoRound_x go)) else (X7_needMove_x cnt into)) else (X7_needMove_x cnt move))
set_option maxHeartbeats 4000000 in
set_option maxRecDepth 100000 in
theorem c_X7_cancel (l : Launch) (dC : Nat → ClassId) (dI : Nat → Nat → Nat) (cY : Nat → ClassId) (x0 : Nat) (qM : Nat) (qd : Nat) (qr_ : Nat) (qT : Nat) (qb : Nat) (qL : Nat) (go : Int32) (AD : Nat → Nat) (cnt : Int32) (MV : Nat → Nat → Int32) (move : Int32) (into : Int32) (is_ : Int32) (hst : l.stackTraces = false) (hz : is_ = 0 ∨ is_ = 1) (sz : Nat) : vx_Met l yX7_cancel wsX7_cancel ({ frames := 7, cells := 3, slots := 18, locals := 105 } : Room) (va_Pc [.ref x0, .int move, .int into, .int is_] (xPre (dC, dI) (tyL cY) ([(x0, .inr (7, [.ref (AD 0), .ref qM, .ref qd, .ref qr_, .ref qT, .ref qb, .ref qL, .int go])), (AD 0, .inr (5, [.int cnt, .ref (AD 1), .ref (AD 8)])), (AD 1, .inl (cY 2, 6, .inr (.inr (.inr (.inr (fun j => some (AD (2 + j))))))))] ++ bkM AD cY MV) sz)) (va_Qi (fun (r : Int32) (_ : Unit) => (X7_cancel_x cnt go into move) = 0 ∧ r = (X4_goesInto_r (MV (mi move)) into) ∧ (r = 0 ∨ r = 1)) (wPost (dC, dI) ([(x0, .inr (7, [.ref (AD 0), .ref qM, .ref qd, .ref qr_, .ref qT, .ref qb, .ref qL, .int go])), (AD 0, .inr (5, [.int cnt, .ref (AD 1), .ref (AD 8)])), (AD 1, .inl (cY 2, 6, .inr (.inr (.inr (.inr (fun j => some (AD (2 + j))))))))] ++ bkM AD cY (mvS MV (mi move) (rowM ((MV (mi move)) 0) ((MV (mi move)) 1) ((MV (mi move)) 2) ((MV (mi move)) 3) ((MV (mi move)) 4) ((MV (mi move)) 5) (fun k => (MV (mi move)) (6 + k)) (X4_letGoInto_w2 (fun k => (MV (mi move)) (11 + k)) is_ into)))) (va_A ([(x0, .inr (7, [.ref (AD 0), .ref qM, .ref qd, .ref qr_, .ref qT, .ref qb, .ref qL, .int go])), (AD 0, .inr (5, [.int cnt, .ref (AD 1), .ref (AD 8)])), (AD 1, .inl (cY 2, 6, .inr (.inr (.inr (.inr (fun j => some (AD (2 + j))))))))] ++ bkM AD cY MV) sz)) (va_A ([(x0, .inr (7, [.ref (AD 0), .ref qM, .ref qd, .ref qr_, .ref qT, .ref qb, .ref qL, .int go])), (AD 0, .inr (5, [.int cnt, .ref (AD 1), .ref (AD 8)])), (AD 1, .inl (cY 2, 6, .inr (.inr (.inr (.inr (fun j => some (AD (2 + j))))))))] ++ bkM AD cY MV) sz)) (vx_X (fun _ : Unit => ¬ (X7_cancel_x cnt go into move) = 0) (xPost (dC, dI) ([(x0, .inr (7, [.ref (AD 0), .ref qM, .ref qd, .ref qr_, .ref qT, .ref qb, .ref qL, .int go])), (AD 0, .inr (5, [.int cnt, .ref (AD 1), .ref (AD 8)])), (AD 1, .inl (cY 2, 6, .inr (.inr (.inr (.inr (fun j => some (AD (2 + j))))))))] ++ bkM AD cY MV) (va_A ([(x0, .inr (7, [.ref (AD 0), .ref qM, .ref qd, .ref qr_, .ref qT, .ref qb, .ref qL, .int go])), (AD 0, .inr (5, [.int cnt, .ref (AD 1), .ref (AD 8)])), (AD 1, .inl (cY 2, 6, .inr (.inr (.inr (.inr (fun j => some (AD (2 + j))))))))] ++ bkM AD cY MV) sz) (X7_cancel_x cnt go into move)) (va_A ([(x0, .inr (7, [.ref (AD 0), .ref qM, .ref qd, .ref qr_, .ref qT, .ref qb, .ref qL, .int go])), (AD 0, .inr (5, [.int cnt, .ref (AD 1), .ref (AD 8)])), (AD 1, .inl (cY 2, 6, .inr (.inr (.inr (.inr (fun j => some (AD (2 + j))))))))] ++ bkM AD cY MV) sz)) 3 18 (va_A ([(x0, .inr (7, [.ref (AD 0), .ref qM, .ref qd, .ref qr_, .ref qT, .ref qb, .ref qL, .int go])), (AD 0, .inr (5, [.int cnt, .ref (AD 1), .ref (AD 8)])), (AD 1, .inl (cY 2, 6, .inr (.inr (.inr (.inr (fun j => some (AD (2 + j))))))))] ++ bkM AD cY MV) sz) := by
  refine vx_ofW (cc := cX7_cancel) (maxL := 5) (ret := (some .boolean)) (by decide) rfl ?_
  intro p e s m args below meth c s₁ B hml ht0 hv
  obtain ⟨rfl, hsz, hP, hK, hN, hD0, xn, xt, xz⟩ := hv
  have hx := B.exec
  have hb := B.bytes
  have hr := B.returns
  have hts := atoms_spec (ws := wsX7_cancel) B.pre
  have hown : s.vm.findClass RX7 = some m.cls := findClass_of_methodNamed B.named
  have hlocks := B.notSynchronized
  subst hsz
  have hD := hD0.self (sz := s.heap.size)
  generalize hAe : va_A ([(x0, .inr (7, [.ref (AD 0), .ref qM, .ref qd, .ref qr_, .ref qT, .ref qb, .ref qL, .int go])), (AD 0, .inr (5, [.int cnt, .ref (AD 1), .ref (AD 8)])), (AD 1, .inl (cY 2, 6, .inr (.inr (.inr (.inr (fun j => some (AD (2 + j))))))))] ++ bkM AD cY MV) s.heap.size = A at hD xz ⊢
  have hA : ∀ q : Nat, s.heap.size ≤ q → A q := fun q h => by rw [← hAe]; exact Or.inr h
  have hS : va_S A s.heap s.heap [] := va_S.rf
  have hP : va_P (dC, dI) vwCl ([(x0, .inr (7, [.ref (AD 0), .ref qM, .ref qd, .ref qr_, .ref qT, .ref qb, .ref qL, .int go])), (AD 0, .inr (5, [.int cnt, .ref (AD 1), .ref (AD 8)])), (AD 1, .inl (cY 2, 6, .inr (.inr (.inr (.inr (fun j => some (AD (2 + j))))))))] ++ bkM AD cY MV) s.heap := hP
  have hl := lv_entry ([.ref x0, .int move, .int into, .int is_]) (n := 5) (Nat.le_of_ble_eq_true rfl)
  rw [lg_entry_eq]
  generalize (lg_sl ([.ref x0, .int move, .int into, .int is_]) ++ List.replicate (5 - (lg_sl ([.ref x0, .int move, .int into, .int is_])).length) Slot.unset).toArray = ls at hl ⊢
  have hl : lv_has ls 5 [(0, .ref x0), (1, .int move), (2, .int into), (3, .int is_)] := hl
  refine lv_aload_n hx hb dX7_cancel_0 rfl (lv_at hl 0 rfl) ?_
  refine lv_iload_n hx hb dX7_cancel_1 rfl (lv_at hl 1 rfl) ?_
  have hPc := hP.sub (ws' := [(x0, .inr (7, [.ref (AD 0), .ref qM, .ref qd, .ref qr_, .ref qT, .ref qb, .ref qL, .int go])), (AD 0, .inr (5, [.int cnt, .ref (AD 1), .ref (AD 8)]))]) [0, 1] rfl
  have hDc := hD.sub (ws' := [(x0, .inr (7, [.ref (AD 0), .ref qM, .ref qd, .ref qr_, .ref qT, .ref qb, .ref qL, .int go])), (AD 0, .inr (5, [.int cnt, .ref (AD 1), .ref (AD 8)]))]) [0, 1] (by decide) rfl
  have hFc := va_free (wc := [(x0, .inr (7, [.ref (AD 0), .ref qM, .ref qd, .ref qr_, .ref qT, .ref qb, .ref qL, .int go])), (AD 0, .inr (5, [.int cnt, .ref (AD 1), .ref (AD 8)]))]) hD hS hA [0, 1] rfl
  refine vx_callv (vx_runV (As := [.int move]) (rest := []) ⟨hx, hb, hml, hown, hts⟩ (c_X7_needMove l dC dI cY x0 qM qd qr_ qT qb qL go AD cnt move hst s.heap.size) (cwV 1 hts gX7_cancel_X7_needMove rfl rfl rfl (by decide +kernel) ⟨Nat.le_of_ble_eq_true rfl, Nat.le_of_ble_eq_true rfl⟩) ⟨blindX, va_recv hK hPc (ci := 7) (q0 := 0) rfl rfl, fun U hU hW => ⟨rfl, xPre_of hPc hK hN hDc xn xt xz hS hFc U hU hW⟩⟩ rfl rfl hl.1 rfl (lv_room (Nat.le_of_ble_eq_true rfl)) dX7_cancel_2 ⟨Nat.le_of_ble_eq_true rfl, Nat.le_of_ble_eq_true rfl⟩) hS (fun q _ h => hFc q h) hFc (fun q _ h => hFc q h) (fun E9 ce9 q9 u t H1 locs1 ht hvm c_1 hB hz1 hk1 hS1 hce hcv hcl => ?_) (fun u t H1 locs ht hvm c_1 hB hz1 hk1 hS1 => ?_)
  · obtain ⟨hE9, hB⟩ := hB
    have hB : wPost (dC, dI) [(x0, .inr (7, [.ref (AD 0), .ref qM, .ref qd, .ref qr_, .ref qT, .ref qb, .ref qL, .int go])), (AD 0, .inr (5, [.int cnt, .ref (AD 1), .ref (AD 8)]))] (va_A [(x0, .inr (7, [.ref (AD 0), .ref qM, .ref qd, .ref qr_, .ref qT, .ref qb, .ref qL, .int go])), (AD 0, .inr (5, [.int cnt, .ref (AD 1), .ref (AD 8)]))] s.heap.size) () t := hB
    have hJ := wJoinQ (wr := [(AD 1, .inl (cY 2, 6, .inr (.inr (.inr (.inr (fun j => some (AD (2 + j))))))))]) (w1 := [(x0, .inr (7, [.ref (AD 0), .ref qM, .ref qd, .ref qr_, .ref qT, .ref qb, .ref qL, .int go])), (AD 0, .inr (5, [.int cnt, .ref (AD 1), .ref (AD 8)]))]) (wn := [(x0, .inr (7, [.ref (AD 0), .ref qM, .ref qd, .ref qr_, .ref qT, .ref qb, .ref qL, .int go])), (AD 0, .inr (5, [.int cnt, .ref (AD 1), .ref (AD 8)])), (AD 1, .inl (cY 2, 6, .inr (.inr (.inr (.inr (fun j => some (AD (2 + j))))))))]) hP hD [0, 1] [2] rfl rfl (by decide) (by decide) hk1 hFc hB ht [1, 2, 0] rfl (by decide)
    obtain ⟨hP9, hD9⟩ := hJ
    have hx9 : (X7_cancel_x cnt go into move) = (X7_needMove_x cnt move) := by rw [X7_cancel_x, if_neg c_1]
    exact vx_out (fun x h => (ht0 x h).elim) hlocks hce hcv hcl (fun t9 ht9 hW9 => ⟨(), by rw [hx9]; exact c_1, ⟨by rw [hx9]; exact hE9, by rw [ht9]; exact hP9, hD9⟩, hS1.F ht9⟩) hS1.2.2 (Nat.le_of_ble_eq_true rfl) (Nat.le_of_ble_eq_true rfl)
  have hJ := wJoinQ (wr := [(AD 1, .inl (cY 2, 6, .inr (.inr (.inr (.inr (fun j => some (AD (2 + j))))))))]) (w1 := [(x0, .inr (7, [.ref (AD 0), .ref qM, .ref qd, .ref qr_, .ref qT, .ref qb, .ref qL, .int go])), (AD 0, .inr (5, [.int cnt, .ref (AD 1), .ref (AD 8)]))]) (wn := [(x0, .inr (7, [.ref (AD 0), .ref qM, .ref qd, .ref qr_, .ref qT, .ref qb, .ref qL, .int go])), (AD 0, .inr (5, [.int cnt, .ref (AD 1), .ref (AD 8)])), (AD 1, .inl (cY 2, 6, .inr (.inr (.inr (.inr (fun j => some (AD (2 + j))))))))]) hP hD [0, 1] [2] rfl rfl (by decide) (by decide) hk1 hFc hB ht [1, 2, 0] rfl (by decide)
  clear hB hk1 hFc hPc hDc hP hD hS hz1 hvm ht t
  obtain ⟨hP1, hD1⟩ := hJ
  generalize H1 = H at hP1 hS1 ⊢
  have hP : va_P (dC, dI) vwCl ([(x0, .inr (7, [.ref (AD 0), .ref qM, .ref qd, .ref qr_, .ref qT, .ref qb, .ref qL, .int go])), (AD 0, .inr (5, [.int cnt, .ref (AD 1), .ref (AD 8)])), (AD 1, .inl (cY 2, 6, .inr (.inr (.inr (.inr (fun j => some (AD (2 + j))))))))] ++ bkM AD cY MV) H := hP1
  have hD : va_D A ([(x0, .inr (7, [.ref (AD 0), .ref qM, .ref qd, .ref qr_, .ref qT, .ref qb, .ref qL, .int go])), (AD 0, .inr (5, [.int cnt, .ref (AD 1), .ref (AD 8)])), (AD 1, .inl (cY 2, 6, .inr (.inr (.inr (.inr (fun j => some (AD (2 + j))))))))] ++ bkM AD cY MV) := hD1
  have hS := hS1
  clear hP1 hD1 hS1
  refine lv_aload_n hx hb dX7_cancel_5 rfl (lv_at hl 0 rfl) ?_
  refine lv_iload_n hx hb dX7_cancel_6 rfl (lv_at hl 2 rfl) ?_
  have hPc := hP.sub (ws' := [(x0, .inr (7, [.ref (AD 0), .ref qM, .ref qd, .ref qr_, .ref qT, .ref qb, .ref qL, .int go])), (AD 0, .inr (5, [.int cnt, .ref (AD 1), .ref (AD 8)]))]) [0, 1] rfl
  have hDc := hD.sub (ws' := [(x0, .inr (7, [.ref (AD 0), .ref qM, .ref qd, .ref qr_, .ref qT, .ref qb, .ref qL, .int go])), (AD 0, .inr (5, [.int cnt, .ref (AD 1), .ref (AD 8)]))]) [0, 1] (by decide) rfl
  have hFc := va_free (wc := [(x0, .inr (7, [.ref (AD 0), .ref qM, .ref qd, .ref qr_, .ref qT, .ref qb, .ref qL, .int go])), (AD 0, .inr (5, [.int cnt, .ref (AD 1), .ref (AD 8)]))]) hD hS hA [0, 1] rfl
  refine vx_callv (vx_runV (As := [.int into]) (rest := []) ⟨hx, hb, hml, hown, hts⟩ (c_X7_needMove l dC dI cY x0 qM qd qr_ qT qb qL go AD cnt into hst H.size) (cwV 1 hts gX7_cancel_X7_needMove rfl rfl rfl (by decide +kernel) ⟨Nat.le_of_ble_eq_true rfl, Nat.le_of_ble_eq_true rfl⟩) ⟨blindX, va_recv hK hPc (ci := 7) (q0 := 0) rfl rfl, fun U hU hW => ⟨rfl, xPre_of hPc hK hN hDc xn xt xz hS hFc U hU hW⟩⟩ rfl rfl hl.1 rfl (lv_room (Nat.le_of_ble_eq_true rfl)) dX7_cancel_7 ⟨Nat.le_of_ble_eq_true rfl, Nat.le_of_ble_eq_true rfl⟩) hS (fun q _ h => hFc q h) hFc (fun q _ h => hFc q h) (fun E9 ce9 q9 u t H1 locs1 ht hvm c_2 hB hz1 hk1 hS1 hce hcv hcl => ?_) (fun u t H1 locs ht hvm c_2 hB hz1 hk1 hS1 => ?_)
  · obtain ⟨hE9, hB⟩ := hB
    have hB : wPost (dC, dI) [(x0, .inr (7, [.ref (AD 0), .ref qM, .ref qd, .ref qr_, .ref qT, .ref qb, .ref qL, .int go])), (AD 0, .inr (5, [.int cnt, .ref (AD 1), .ref (AD 8)]))] (va_A [(x0, .inr (7, [.ref (AD 0), .ref qM, .ref qd, .ref qr_, .ref qT, .ref qb, .ref qL, .int go])), (AD 0, .inr (5, [.int cnt, .ref (AD 1), .ref (AD 8)]))] H.size) () t := hB
    have hJ := wJoinQ (wr := [(AD 1, .inl (cY 2, 6, .inr (.inr (.inr (.inr (fun j => some (AD (2 + j))))))))]) (w1 := [(x0, .inr (7, [.ref (AD 0), .ref qM, .ref qd, .ref qr_, .ref qT, .ref qb, .ref qL, .int go])), (AD 0, .inr (5, [.int cnt, .ref (AD 1), .ref (AD 8)]))]) (wn := [(x0, .inr (7, [.ref (AD 0), .ref qM, .ref qd, .ref qr_, .ref qT, .ref qb, .ref qL, .int go])), (AD 0, .inr (5, [.int cnt, .ref (AD 1), .ref (AD 8)])), (AD 1, .inl (cY 2, 6, .inr (.inr (.inr (.inr (fun j => some (AD (2 + j))))))))]) hP hD [0, 1] [2] rfl rfl (by decide) (by decide) hk1 hFc hB ht [1, 2, 0] rfl (by decide)
    obtain ⟨hP9, hD9⟩ := hJ
    have hx9 : (X7_cancel_x cnt go into move) = (X7_needMove_x cnt into) := by rw [X7_cancel_x, if_pos c_1, if_neg c_2]
    exact vx_out (fun x h => (ht0 x h).elim) hlocks hce hcv hcl (fun t9 ht9 hW9 => ⟨(), by rw [hx9]; exact c_2, ⟨by rw [hx9]; exact hE9, by rw [ht9]; exact hP9, hD9⟩, hS1.F ht9⟩) hS1.2.2 (Nat.le_of_ble_eq_true rfl) (Nat.le_of_ble_eq_true rfl)
  have hJ := wJoinQ (wr := [(AD 1, .inl (cY 2, 6, .inr (.inr (.inr (.inr (fun j => some (AD (2 + j))))))))]) (w1 := [(x0, .inr (7, [.ref (AD 0), .ref qM, .ref qd, .ref qr_, .ref qT, .ref qb, .ref qL, .int go])), (AD 0, .inr (5, [.int cnt, .ref (AD 1), .ref (AD 8)]))]) (wn := [(x0, .inr (7, [.ref (AD 0), .ref qM, .ref qd, .ref qr_, .ref qT, .ref qb, .ref qL, .int go])), (AD 0, .inr (5, [.int cnt, .ref (AD 1), .ref (AD 8)])), (AD 1, .inl (cY 2, 6, .inr (.inr (.inr (.inr (fun j => some (AD (2 + j))))))))]) hP hD [0, 1] [2] rfl rfl (by decide) (by decide) hk1 hFc hB ht [1, 2, 0] rfl (by decide)
  clear hB hk1 hFc hPc hDc hP hD hS hz1 hvm ht t
  obtain ⟨hP1, hD1⟩ := hJ
  generalize H1 = H at hP1 hS1 ⊢
  have hP : va_P (dC, dI) vwCl ([(x0, .inr (7, [.ref (AD 0), .ref qM, .ref qd, .ref qr_, .ref qT, .ref qb, .ref qL, .int go])), (AD 0, .inr (5, [.int cnt, .ref (AD 1), .ref (AD 8)])), (AD 1, .inl (cY 2, 6, .inr (.inr (.inr (.inr (fun j => some (AD (2 + j))))))))] ++ bkM AD cY MV) H := hP1
  have hD : va_D A ([(x0, .inr (7, [.ref (AD 0), .ref qM, .ref qd, .ref qr_, .ref qT, .ref qb, .ref qL, .int go])), (AD 0, .inr (5, [.int cnt, .ref (AD 1), .ref (AD 8)])), (AD 1, .inl (cY 2, 6, .inr (.inr (.inr (.inr (fun j => some (AD (2 + j))))))))] ++ bkM AD cY MV) := hD1
  have hS := hS1
  clear hP1 hD1 hS1
  refine lv_aload_n hx hb dX7_cancel_10 rfl (lv_at hl 0 rfl) ?_
  have hPc := hP.sub (ws' := [(x0, .inr (7, [.ref (AD 0), .ref qM, .ref qd, .ref qr_, .ref qT, .ref qb, .ref qL, .int go]))]) [0] rfl
  have hDc := hD.sub (ws' := [(x0, .inr (7, [.ref (AD 0), .ref qM, .ref qd, .ref qr_, .ref qT, .ref qb, .ref qL, .int go]))]) [0] (by decide) rfl
  have hFc := va_free (wc := [(x0, .inr (7, [.ref (AD 0), .ref qM, .ref qd, .ref qr_, .ref qT, .ref qb, .ref qL, .int go]))]) hD hS hA [0] rfl
  refine vx_callv (vx_runV (As := []) (rest := []) ⟨hx, hb, hml, hown, hts⟩ (c_X7_needNoRound l dC dI cY x0 qM qd qr_ qT qb qL go (AD 0) hst H.size) (cwV 0 hts gX7_cancel_X7_needNoRound rfl rfl rfl (by decide +kernel) ⟨Nat.le_of_ble_eq_true rfl, Nat.le_of_ble_eq_true rfl⟩) ⟨blindX, va_recv hK hPc (ci := 7) (q0 := 0) rfl rfl, fun U hU hW => ⟨rfl, xPre_of hPc hK hN hDc xn xt xz hS hFc U hU hW⟩⟩ rfl rfl hl.1 rfl (lv_room (Nat.le_of_ble_eq_true rfl)) dX7_cancel_11 ⟨Nat.le_of_ble_eq_true rfl, Nat.le_of_ble_eq_true rfl⟩) hS (fun q _ h => hFc q h) hFc (fun q _ h => hFc q h) (fun E9 ce9 q9 u t H1 locs1 ht hvm c_3 hB hz1 hk1 hS1 hce hcv hcl => ?_) (fun u t H1 locs ht hvm c_3 hB hz1 hk1 hS1 => ?_)
  · obtain ⟨hE9, hB⟩ := hB
    have hB : wPost (dC, dI) [(x0, .inr (7, [.ref (AD 0), .ref qM, .ref qd, .ref qr_, .ref qT, .ref qb, .ref qL, .int go]))] (va_A [(x0, .inr (7, [.ref (AD 0), .ref qM, .ref qd, .ref qr_, .ref qT, .ref qb, .ref qL, .int go]))] H.size) () t := hB
    have hJ := wJoinQ (wr := [(AD 0, .inr (5, [.int cnt, .ref (AD 1), .ref (AD 8)])), (AD 1, .inl (cY 2, 6, .inr (.inr (.inr (.inr (fun j => some (AD (2 + j))))))))]) (w1 := [(x0, .inr (7, [.ref (AD 0), .ref qM, .ref qd, .ref qr_, .ref qT, .ref qb, .ref qL, .int go]))]) (wn := [(x0, .inr (7, [.ref (AD 0), .ref qM, .ref qd, .ref qr_, .ref qT, .ref qb, .ref qL, .int go])), (AD 0, .inr (5, [.int cnt, .ref (AD 1), .ref (AD 8)])), (AD 1, .inl (cY 2, 6, .inr (.inr (.inr (.inr (fun j => some (AD (2 + j))))))))]) hP hD [0] [1, 2] rfl rfl (by decide) (by decide) hk1 hFc hB ht [2, 0, 1] rfl (by decide)
    obtain ⟨hP9, hD9⟩ := hJ
    have hx9 : (X7_cancel_x cnt go into move) = (X7_needNoRound_x go) := by rw [X7_cancel_x, if_pos c_1, if_pos c_2, if_neg c_3]
    exact vx_out (fun x h => (ht0 x h).elim) hlocks hce hcv hcl (fun t9 ht9 hW9 => ⟨(), by rw [hx9]; exact c_3, ⟨by rw [hx9]; exact hE9, by rw [ht9]; exact hP9, hD9⟩, hS1.F ht9⟩) hS1.2.2 (Nat.le_of_ble_eq_true rfl) (Nat.le_of_ble_eq_true rfl)
  have hJ := wJoinQ (wr := [(AD 0, .inr (5, [.int cnt, .ref (AD 1), .ref (AD 8)])), (AD 1, .inl (cY 2, 6, .inr (.inr (.inr (.inr (fun j => some (AD (2 + j))))))))]) (w1 := [(x0, .inr (7, [.ref (AD 0), .ref qM, .ref qd, .ref qr_, .ref qT, .ref qb, .ref qL, .int go]))]) (wn := [(x0, .inr (7, [.ref (AD 0), .ref qM, .ref qd, .ref qr_, .ref qT, .ref qb, .ref qL, .int go])), (AD 0, .inr (5, [.int cnt, .ref (AD 1), .ref (AD 8)])), (AD 1, .inl (cY 2, 6, .inr (.inr (.inr (.inr (fun j => some (AD (2 + j))))))))]) hP hD [0] [1, 2] rfl rfl (by decide) (by decide) hk1 hFc hB ht [2, 0, 1] rfl (by decide)
  clear hB hk1 hFc hPc hDc hP hD hS hz1 hvm ht t
  obtain ⟨hP1, hD1⟩ := hJ
  generalize H1 = H at hP1 hS1 ⊢
  have hP : va_P (dC, dI) vwCl ([(x0, .inr (7, [.ref (AD 0), .ref qM, .ref qd, .ref qr_, .ref qT, .ref qb, .ref qL, .int go])), (AD 0, .inr (5, [.int cnt, .ref (AD 1), .ref (AD 8)])), (AD 1, .inl (cY 2, 6, .inr (.inr (.inr (.inr (fun j => some (AD (2 + j))))))))] ++ bkM AD cY MV) H := hP1
  have hD : va_D A ([(x0, .inr (7, [.ref (AD 0), .ref qM, .ref qd, .ref qr_, .ref qT, .ref qb, .ref qL, .int go])), (AD 0, .inr (5, [.int cnt, .ref (AD 1), .ref (AD 8)])), (AD 1, .inl (cY 2, 6, .inr (.inr (.inr (.inr (fun j => some (AD (2 + j))))))))] ++ bkM AD cY MV) := hD1
  have hS := hS1
  clear hP1 hD1 hS1
  refine lv_aload_n hx hb dX7_cancel_14 rfl (lv_at hl 0 rfl) ?_
  refine va_get (D := (dC, dI)) (ci := 7) (v := .ref (AD 0)) (C := RX7) (T := TX7) (N := 8) hx hb hts inw_X7_cancel_X7 hown hK hP 0 rfl rfl 0 (by decide) (hts (.fieldLink RX7 10 "DuelFrames" "moves" "LDuelFrames$MoveList;") (List.mem_of_getElem? (i := 1) rfl)) (fun _ h9 => h9) rfl dX7_cancel_15 ?_
  refine lv_iload_n hx hb dX7_cancel_18 rfl (lv_at hl 1 rfl) ?_
  have hPc := hP.sub (ws' := [(AD 0, .inr (5, [.int cnt, .ref (AD 1), .ref (AD 8)])), (AD 1, .inl (cY 2, 6, .inr (.inr (.inr (.inr (fun j => some (AD (2 + j))))))))]) [1, 2] rfl
  refine va_csr (W.runV (As := [.int move]) (rest := []) ⟨hx, hb, hml, hown, hts⟩ (c_X5_at l dC dI cY AD cnt move) (cwV 1 hts gX7_cancel_X5_at rfl rfl rfl (by decide +kernel) ⟨Nat.le_of_ble_eq_true rfl, Nat.le_of_ble_eq_true rfl⟩) ⟨blindR, va_recv hK hPc (ci := 5) (q0 := 0) rfl rfl, fun U hU hW => ⟨rfl, rPre_of hPc hK hN U hU hW⟩⟩ rfl rfl hl.1 rfl (lv_room (Nat.le_of_ble_eq_true rfl)) dX7_cancel_19 ⟨Nat.le_of_ble_eq_true rfl, Nat.le_of_ble_eq_true rfl⟩) (fun r hw => ?_)
  subst r
  refine lv_iload_n hx hb dX7_cancel_22 rfl (lv_at hl 2 rfl) ?_
  have hPc := bk_move hP (mi_lt move)
  refine vp_callSi (W.runV (As := [.int into]) (rest := []) ⟨hx, hb, hml, hown, hts⟩ (c_X4_goesInto l dC dI cY (AD (2 + (mi move))) (AD (9 + (mi move))) (AD (16 + (mi move))) (MV (mi move)) into) (cwV 1 hts gX7_cancel_X4_goesInto rfl rfl rfl (by decide +kernel) ⟨Nat.le_of_ble_eq_true rfl, Nat.le_of_ble_eq_true rfl⟩) ⟨blindR, va_recv hK hPc (ci := 4) (q0 := 0) rfl rfl, fun U hU hW => ⟨rfl, rPre_of hPc hK hN U hU hW⟩⟩ rfl rfl hl.1 rfl (lv_room (Nat.le_of_ble_eq_true rfl)) dX7_cancel_23 ⟨Nat.le_of_ble_eq_true rfl, Nat.le_of_ble_eq_true rfl⟩) (fun r_4 hw => ?_)
  obtain ⟨hw, hb_5⟩ := hw
  subst hw
  refine lv_istore (lv' := [(4, .int (X4_goesInto_r (MV (mi move)) into)), (0, .ref x0), (1, .int move), (2, .int into), (3, .int is_)]) hx hb dX7_cancel_26 hl (by decide) rfl (fun ls hl => ?_)
  refine lv_aload_n hx hb dX7_cancel_28 rfl (lv_at hl 1 rfl) ?_
  refine va_get (D := (dC, dI)) (ci := 7) (v := .ref (AD 0)) (C := RX7) (T := TX7) (N := 8) hx hb hts inw_X7_cancel_X7 hown hK hP 0 rfl rfl 0 (by decide) (hts (.fieldLink RX7 10 "DuelFrames" "moves" "LDuelFrames$MoveList;") (List.mem_of_getElem? (i := 1) rfl)) (fun _ h9 => h9) rfl dX7_cancel_29 ?_
  refine lv_iload_n hx hb dX7_cancel_32 rfl (lv_at hl 2 rfl) ?_
  have hPc := hP.sub (ws' := [(AD 0, .inr (5, [.int cnt, .ref (AD 1), .ref (AD 8)])), (AD 1, .inl (cY 2, 6, .inr (.inr (.inr (.inr (fun j => some (AD (2 + j))))))))]) [1, 2] rfl
  refine va_csr (W.runV (As := [.int move]) (rest := []) ⟨hx, hb, hml, hown, hts⟩ (c_X5_at l dC dI cY AD cnt move) (cwV 1 hts gX7_cancel_X5_at rfl rfl rfl (by decide +kernel) ⟨Nat.le_of_ble_eq_true rfl, Nat.le_of_ble_eq_true rfl⟩) ⟨blindR, va_recv hK hPc (ci := 5) (q0 := 0) rfl rfl, fun U hU hW => ⟨rfl, rPre_of hPc hK hN U hU hW⟩⟩ rfl rfl hl.1 rfl (lv_room (Nat.le_of_ble_eq_true rfl)) dX7_cancel_33 ⟨Nat.le_of_ble_eq_true rfl, Nat.le_of_ble_eq_true rfl⟩) (fun r hw => ?_)
  subst r
  refine lv_iload_n hx hb dX7_cancel_36 rfl (lv_at hl 3 rfl) ?_
  refine lv_iload_n hx hb dX7_cancel_37 rfl (lv_at hl 4 rfl) ?_
  have hPc := bk_move hP (mi_lt move)
  have hDc := bk_D (X := [(x0, .inr (7, [.ref (AD 0), .ref qM, .ref qd, .ref qr_, .ref qT, .ref qb, .ref qL, .int go])), (AD 0, .inr (5, [.int cnt, .ref (AD 1), .ref (AD 8)])), (AD 1, .inl (cY 2, 6, .inr (.inr (.inr (.inr (fun j => some (AD (2 + j))))))))]) (mi_lt move) hD
  have hFc := bk_F (X := [(x0, .inr (7, [.ref (AD 0), .ref qM, .ref qd, .ref qr_, .ref qT, .ref qb, .ref qL, .int go])), (AD 0, .inr (5, [.int cnt, .ref (AD 1), .ref (AD 8)])), (AD 1, .inl (cY 2, 6, .inr (.inr (.inr (.inr (fun j => some (AD (2 + j))))))))]) (mi_lt move) hD hS hA
  refine va_callv (va_runV (As := [.int into, .int is_]) (rest := []) ⟨hx, hb, hml, hown, hts⟩ (c_X4_letGoInto l dC dI cY (AD (2 + (mi move))) (AD (9 + (mi move))) (AD (16 + (mi move))) ((MV (mi move)) 0) ((MV (mi move)) 1) ((MV (mi move)) 2) ((MV (mi move)) 3) ((MV (mi move)) 4) ((MV (mi move)) 5) (fun k => (MV (mi move)) (6 + k)) (fun k => (MV (mi move)) (11 + k)) into is_ hz H.size) (cwV 2 hts gX7_cancel_X4_letGoInto rfl rfl rfl (by decide +kernel) ⟨Nat.le_of_ble_eq_true rfl, Nat.le_of_ble_eq_true rfl⟩) ⟨blindW, va_recv hK hPc (ci := 4) (q0 := 0) rfl rfl, fun U hU hW => ⟨rfl, wPre_of hPc hK hN hDc U hU hW⟩⟩ rfl rfl hl.1 rfl (lv_room (Nat.le_of_ble_eq_true rfl)) dX7_cancel_38 ⟨Nat.le_of_ble_eq_true rfl, Nat.le_of_ble_eq_true rfl⟩) hS (fun q _ h => hFc q h) hFc (fun u t H1 locs ht hvm hw hB hz1 hk1 hS1 => ?_)
  have hB2 : wPost (dC, dI) (mvC (AD (2 + (mi move))) (AD (9 + (mi move))) (AD (16 + (mi move))) cY (rowM ((MV (mi move)) 0) ((MV (mi move)) 1) ((MV (mi move)) 2) ((MV (mi move)) 3) ((MV (mi move)) 4) ((MV (mi move)) 5) (fun k => (MV (mi move)) (6 + k)) (X4_letGoInto_w2 (fun k => (MV (mi move)) (11 + k)) is_ into))) (va_A (mvC (AD (2 + (mi move))) (AD (9 + (mi move))) (AD (16 + (mi move))) cY (MV (mi move))) H.size) u t := mvRow hB
  have hJ := bkJoin (X := [(x0, .inr (7, [.ref (AD 0), .ref qM, .ref qd, .ref qr_, .ref qT, .ref qb, .ref qL, .int go])), (AD 0, .inr (5, [.int cnt, .ref (AD 1), .ref (AD 8)])), (AD 1, .inl (cY 2, 6, .inr (.inr (.inr (.inr (fun j => some (AD (2 + j))))))))]) (mi_lt move) hP hD hk1 hB2 ht
  clear hB2 hB hk1 hFc hPc hDc hP hD hS hz1 hvm ht t
  obtain ⟨hP1, hD1⟩ := hJ
  generalize H1 = H at hP1 hS1 ⊢
  have hP : va_P (dC, dI) vwCl ([(x0, .inr (7, [.ref (AD 0), .ref qM, .ref qd, .ref qr_, .ref qT, .ref qb, .ref qL, .int go])), (AD 0, .inr (5, [.int cnt, .ref (AD 1), .ref (AD 8)])), (AD 1, .inl (cY 2, 6, .inr (.inr (.inr (.inr (fun j => some (AD (2 + j))))))))] ++ bkM AD cY (mvS MV (mi move) (rowM ((MV (mi move)) 0) ((MV (mi move)) 1) ((MV (mi move)) 2) ((MV (mi move)) 3) ((MV (mi move)) 4) ((MV (mi move)) 5) (fun k => (MV (mi move)) (6 + k)) (X4_letGoInto_w2 (fun k => (MV (mi move)) (11 + k)) is_ into)))) H := hP1
  have hD : va_D A ([(x0, .inr (7, [.ref (AD 0), .ref qM, .ref qd, .ref qr_, .ref qT, .ref qb, .ref qL, .int go])), (AD 0, .inr (5, [.int cnt, .ref (AD 1), .ref (AD 8)])), (AD 1, .inl (cY 2, 6, .inr (.inr (.inr (.inr (fun j => some (AD (2 + j))))))))] ++ bkM AD cY (mvS MV (mi move) (rowM ((MV (mi move)) 0) ((MV (mi move)) 1) ((MV (mi move)) 2) ((MV (mi move)) 3) ((MV (mi move)) 4) ((MV (mi move)) 5) (fun k => (MV (mi move)) (6 + k)) (X4_letGoInto_w2 (fun k => (MV (mi move)) (11 + k)) is_ into)))) := hD1
  have hS := hS1
  clear hP1 hD1 hS1
  refine lv_iload hx hb dX7_cancel_41 (lv_at hl 0 rfl) ?_
  have hx9 : (X7_cancel_x cnt go into move) = 0 := by rw [X7_cancel_x, if_pos c_1, if_pos c_2, if_pos c_3]
  have hP9 : va_P (dC, dI) vwCl ([(x0, .inr (7, [.ref (AD 0), .ref qM, .ref qd, .ref qr_, .ref qT, .ref qb, .ref qL, .int go])), (AD 0, .inr (5, [.int cnt, .ref (AD 1), .ref (AD 8)])), (AD 1, .inl (cY 2, 6, .inr (.inr (.inr (.inr (fun j => some (AD (2 + j))))))))] ++ bkM AD cY (mvS MV (mi move) (rowM ((MV (mi move)) 0) ((MV (mi move)) 1) ((MV (mi move)) 2) ((MV (mi move)) 3) ((MV (mi move)) 4) ((MV (mi move)) 5) (fun k => (MV (mi move)) (6 + k)) (X4_letGoInto_w2 (fun k => (MV (mi move)) (11 + k)) is_ into)))) H := hP
  have hD9 : va_D A ([(x0, .inr (7, [.ref (AD 0), .ref qM, .ref qd, .ref qr_, .ref qT, .ref qb, .ref qL, .int go])), (AD 0, .inr (5, [.int cnt, .ref (AD 1), .ref (AD 8)])), (AD 1, .inl (cY 2, 6, .inr (.inr (.inr (.inr (fun j => some (AD (2 + j))))))))] ++ bkM AD cY (mvS MV (mi move) (rowM ((MV (mi move)) 0) ((MV (mi move)) 1) ((MV (mi move)) 2) ((MV (mi move)) 3) ((MV (mi move)) 4) ((MV (mi move)) 5) (fun k => (MV (mi move)) (6 + k)) (X4_letGoInto_w2 (fun k => (MV (mi move)) (11 + k)) is_ into)))) := hD
  refine vx_ret ?_
  refine W.widen (k := 3) (n := 18) (Nat.le_of_ble_eq_true rfl) (Nat.le_of_ble_eq_true rfl) ?_
  exact W.zret (v := (X4_goesInto_r (MV (mi move)) into)) (ty := .boolean) hx hb hr (zb_n hb_5) (fun t ht hW => ⟨⟨_, (), rfl, ⟨hx9, ⟨rfl, hb_5⟩⟩, wPost_of hP9 hD9 ht⟩, hS.F ht⟩) hS.2.2 dX7_cancel_43
