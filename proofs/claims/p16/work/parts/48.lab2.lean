theorem inw_X3_keepIfBest_X3 : ∀ w ∈ u_ws RX3 TX3 7, w ∈ wsX3_keepIfBest := fun _ h => List.mem_cons_of_mem _ (List.mem_append_right _ h)
def X3_keepIfBest_0_0 (bl : Int32) (hits : Int32) (loss : Int32) : Int32 := (if loss ≤ bl then bl else (if 4 < hits then bl else loss))
def X3_keepIfBest_0_6 (bh : Int32) (bl : Int32) (hits : Int32) (loss : Int32) : Int32 := (if loss ≤ bl then bh else (if 4 < hits then bh else hits))
def X3_keepIfBest_w2 (bl : Int32) (bs : Nat → Int32) (hits : Int32) (loss : Int32) (rr : Nat → Int32) : Nat → Int32 := (if loss ≤ bl then bs else (if 4 < hits then bs else (va_cpy rr bs 0 0 hits.toNatClampNeg)))
set_option maxHeartbeats 4000000 in
set_option maxRecDepth 100000 in
theorem c_X3_keepIfBest (l : Launch) (dC : Nat → ClassId) (dI : Nat → Nat → Nat) (cY : Nat → ClassId) (qL : Nat) (qd : Nat) (qB : Nat) (qR : Nat) (qS : Nat) (AD : Nat → Nat) (bl : Int32) (bh : Int32) (rr : Nat → Int32) (bs : Nat → Int32) (loss : Int32) (hits : Int32) (h0 : (0 : Int32) ≤ hits) (sz : Nat) : Met l yX3_keepIfBest wsX3_keepIfBest ({ frames := 1, cells := 0, slots := 0, locals := 26 } : Room) (va_Pc [.ref qL, .int loss, .int hits] (wPre (dC, dI) (tyL cY) [(qL, .inr (3, [.int bl, .ref (AD 0), .ref qd, .ref qB, .ref qR, .ref qS, .int bh])), (qR, .inl (cY 0, 4, .inl rr)), (qS, .inl (cY 0, 4, .inl bs))] sz)) (va_Qv (fun _ : Unit => True) (wPost (dC, dI) [(qL, .inr (3, [.int (X3_keepIfBest_0_0 bl hits loss), .ref (AD 0), .ref qd, .ref qB, .ref qR, .ref qS, .int (X3_keepIfBest_0_6 bh bl hits loss)])), (qR, .inl (cY 0, 4, .inl rr)), (qS, .inl (cY 0, 4, .inl (X3_keepIfBest_w2 bl bs hits loss rr)))] (va_A [(qL, .inr (3, [.int bl, .ref (AD 0), .ref qd, .ref qB, .ref qR, .ref qS, .int bh])), (qR, .inl (cY 0, 4, .inl rr)), (qS, .inl (cY 0, 4, .inl bs))] sz)) (va_A [(qL, .inr (3, [.int bl, .ref (AD 0), .ref qd, .ref qB, .ref qR, .ref qS, .int bh])), (qR, .inl (cY 0, 4, .inl rr)), (qS, .inl (cY 0, 4, .inl bs))] sz)) 0 0 (va_A [(qL, .inr (3, [.int bl, .ref (AD 0), .ref qd, .ref qB, .ref qR, .ref qS, .int bh])), (qR, .inl (cY 0, 4, .inl rr)), (qS, .inl (cY 0, 4, .inl bs))] sz) := by
  refine Met.ofW (cc := cX3_keepIfBest) (maxL := 3) (ret := none) (by decide) rfl ?_
  intro p e s m args below meth c s₁ B hml hv
  obtain ⟨rfl, hsz, hP, hK, hN, hD0⟩ := hv
  have hx := B.exec
  have hb := B.bytes
  have hr := B.returns
  have hts := atoms_spec (ws := wsX3_keepIfBest) B.pre
  have hown : s.vm.findClass RX3 = some m.cls := findClass_of_methodNamed B.named
  have hlocks := B.notSynchronized
  subst hsz
  have hD := hD0.self (sz := s.heap.size)
  generalize hAe : va_A [(qL, .inr (3, [.int bl, .ref (AD 0), .ref qd, .ref qB, .ref qR, .ref qS, .int bh])), (qR, .inl (cY 0, 4, .inl rr)), (qS, .inl (cY 0, 4, .inl bs))] s.heap.size = A at hD ⊢
  have hA : ∀ q : Nat, s.heap.size ≤ q → A q := fun q h => by rw [← hAe]; exact Or.inr h
  have hS : va_S A s.heap s.heap [] := va_S.rf
  have hP : va_P (dC, dI) vwCl [(qL, .inr (3, [.int bl, .ref (AD 0), .ref qd, .ref qB, .ref qR, .ref qS, .int bh])), (qR, .inl (cY 0, 4, .inl rr)), (qS, .inl (cY 0, 4, .inl bs))] s.heap := hP
  have hl := lv_entry ([.ref qL, .int loss, .int hits]) (n := 3) (Nat.le_of_ble_eq_true rfl)
  rw [lg_entry_eq]
  generalize (lg_sl ([.ref qL, .int loss, .int hits]) ++ List.replicate (3 - (lg_sl ([.ref qL, .int loss, .int hits])).length) Slot.unset).toArray = ls at hl ⊢
  have hl : lv_has ls 3 [(0, .ref qL), (1, .int loss), (2, .int hits)] := hl
  refine lv_iload_n hx hb dX3_keepIfBest_0 rfl (lv_at hl 1 rfl) ?_
  refine lv_aload_n hx hb dX3_keepIfBest_1 rfl (lv_at hl 0 rfl) ?_
  refine va_get (D := (dC, dI)) (ci := 3) (v := .int bl) (C := RX3) (T := TX3) (N := 7) hx hb hts inw_X3_keepIfBest_X3 hown hK hP 0 rfl rfl 0 (by decide) (hts (.fieldLink RX3 9 "DuelFrames$Lab" "bestLoss" "I") (List.mem_of_getElem? (i := 1) rfl)) (fun _ h9 => h9) rfl dX3_keepIfBest_2 ?_
  refine lv_icmp_le (tgt := 37) hx hb dX3_keepIfBest_5 (by decide) (fun c_1 => ?_) (fun c_1 => ?_)
  · have eo_2 : (X3_keepIfBest_0_0 bl hits loss) = bl := by rw [X3_keepIfBest_0_0]; simp only [eq_true c_1, ↓reduceIte]
    have eo_3 : (X3_keepIfBest_0_6 bh bl hits loss) = bh := by rw [X3_keepIfBest_0_6]; simp only [eq_true c_1, ↓reduceIte]
    have eo_4 : (X3_keepIfBest_w2 bl bs hits loss rr) = bs := by rw [X3_keepIfBest_w2]; simp only [eq_true c_1, ↓reduceIte]
    have hP9 : va_P (dC, dI) vwCl [(qL, .inr (3, [.int (X3_keepIfBest_0_0 bl hits loss), .ref (AD 0), .ref qd, .ref qB, .ref qR, .ref qS, .int (X3_keepIfBest_0_6 bh bl hits loss)])), (qR, .inl (cY 0, 4, .inl rr)), (qS, .inl (cY 0, 4, .inl (X3_keepIfBest_w2 bl bs hits loss rr)))] s.heap := by simp only [eo_2, eo_3, eo_4]; exact hP
    have hD9 : va_D A [(qL, .inr (3, [.int (X3_keepIfBest_0_0 bl hits loss), .ref (AD 0), .ref qd, .ref qB, .ref qR, .ref qS, .int (X3_keepIfBest_0_6 bh bl hits loss)])), (qR, .inl (cY 0, 4, .inl rr)), (qS, .inl (cY 0, 4, .inl (X3_keepIfBest_w2 bl bs hits loss rr)))] := by simp only [eo_2, eo_3, eo_4]; exact hD
    exact W.vret hx hb hr (fun t ht hW => ⟨⟨(), rfl, trivial, wPost_of hP9 hD9 ht⟩, hS.F ht⟩) hS.2.2 dX3_keepIfBest_37
  · refine lv_iload_n hx hb dX3_keepIfBest_8 rfl (lv_at hl 2 rfl) ?_
    refine lv_iconst (v := 4) hx hb dX3_keepIfBest_9 (by decide) ?_
    refine lv_icmp_gt (tgt := 37) hx hb dX3_keepIfBest_10 (by decide) (fun c_5 => ?_) (fun c_5 => ?_)
    · have eo_6 : (X3_keepIfBest_0_0 bl hits loss) = bl := by rw [X3_keepIfBest_0_0]; simp only [eq_false c_1, eq_true c_5, ↓reduceIte]
      have eo_7 : (X3_keepIfBest_0_6 bh bl hits loss) = bh := by rw [X3_keepIfBest_0_6]; simp only [eq_false c_1, eq_true c_5, ↓reduceIte]
      have eo_8 : (X3_keepIfBest_w2 bl bs hits loss rr) = bs := by rw [X3_keepIfBest_w2]; simp only [eq_false c_1, eq_true c_5, ↓reduceIte]
      have hP9 : va_P (dC, dI) vwCl [(qL, .inr (3, [.int (X3_keepIfBest_0_0 bl hits loss), .ref (AD 0), .ref qd, .ref qB, .ref qR, .ref qS, .int (X3_keepIfBest_0_6 bh bl hits loss)])), (qR, .inl (cY 0, 4, .inl rr)), (qS, .inl (cY 0, 4, .inl (X3_keepIfBest_w2 bl bs hits loss rr)))] s.heap := by simp only [eo_6, eo_7, eo_8]; exact hP
      have hD9 : va_D A [(qL, .inr (3, [.int (X3_keepIfBest_0_0 bl hits loss), .ref (AD 0), .ref qd, .ref qB, .ref qR, .ref qS, .int (X3_keepIfBest_0_6 bh bl hits loss)])), (qR, .inl (cY 0, 4, .inl rr)), (qS, .inl (cY 0, 4, .inl (X3_keepIfBest_w2 bl bs hits loss rr)))] := by simp only [eo_6, eo_7, eo_8]; exact hD
      exact W.vret hx hb hr (fun t ht hW => ⟨⟨(), rfl, trivial, wPost_of hP9 hD9 ht⟩, hS.F ht⟩) hS.2.2 dX3_keepIfBest_37
    · refine lv_aload_n hx hb dX3_keepIfBest_13 rfl (lv_at hl 0 rfl) ?_
      refine lv_iload_n hx hb dX3_keepIfBest_14 rfl (lv_at hl 1 rfl) ?_
      refine va_put (D := (dC, dI)) (ci := 3) (v := .int loss) (ty := .int) (C := RX3) (T := TX3) (N := 7) hx hb hts inw_X3_keepIfBest_X3 tyX3 tyX3_ok nmX3 hown hK hP hD hS 0 rfl rfl 0 (by decide) (hts (.fieldLink RX3 9 "DuelFrames$Lab" "bestLoss" "I") (List.mem_of_getElem? (i := 1) rfl)) (fun _ h9 => h9) rfl (by decide +kernel) rfl rfl (Nat.le_of_ble_eq_true rfl) dX3_keepIfBest_15 (fun H locs hP1 hD1 hS1 => ?_)
      clear hP hD hS
      have hP : va_P (dC, dI) vwCl [(qL, .inr (3, [.int loss, .ref (AD 0), .ref qd, .ref qB, .ref qR, .ref qS, .int bh])), (qR, .inl (cY 0, 4, .inl rr)), (qS, .inl (cY 0, 4, .inl bs))] H := hP1
      have hD : va_D A [(qL, .inr (3, [.int loss, .ref (AD 0), .ref qd, .ref qB, .ref qR, .ref qS, .int bh])), (qR, .inl (cY 0, 4, .inl rr)), (qS, .inl (cY 0, 4, .inl bs))] := hD1
      have hS := hS1
      clear hP1 hD1 hS1
      refine lv_aload_n hx hb dX3_keepIfBest_18 rfl (lv_at hl 0 rfl) ?_
      refine lv_iload_n hx hb dX3_keepIfBest_19 rfl (lv_at hl 2 rfl) ?_
      refine va_put (D := (dC, dI)) (ci := 3) (v := .int hits) (ty := .int) (C := RX3) (T := TX3) (N := 7) hx hb hts inw_X3_keepIfBest_X3 tyX3 tyX3_ok nmX3 hown hK hP hD hS 0 rfl rfl 6 (by decide) (hts (.fieldLink RX3 28 "DuelFrames$Lab" "bestHits" "I") (List.mem_of_getElem? (i := 2) rfl)) (fun _ h9 => h9) rfl (by decide +kernel) rfl rfl (Nat.le_of_ble_eq_true rfl) dX3_keepIfBest_20 (fun H locs hP1 hD1 hS1 => ?_)
      clear hP hD hS
      have hP : va_P (dC, dI) vwCl [(qL, .inr (3, [.int loss, .ref (AD 0), .ref qd, .ref qB, .ref qR, .ref qS, .int hits])), (qR, .inl (cY 0, 4, .inl rr)), (qS, .inl (cY 0, 4, .inl bs))] H := hP1
      have hD : va_D A [(qL, .inr (3, [.int loss, .ref (AD 0), .ref qd, .ref qB, .ref qR, .ref qS, .int hits])), (qR, .inl (cY 0, 4, .inl rr)), (qS, .inl (cY 0, 4, .inl bs))] := hD1
      have hS := hS1
      clear hP1 hD1 hS1
      refine lv_aload_n hx hb dX3_keepIfBest_23 rfl (lv_at hl 0 rfl) ?_
      refine va_get (D := (dC, dI)) (ci := 3) (v := .ref qR) (C := RX3) (T := TX3) (N := 7) hx hb hts inw_X3_keepIfBest_X3 hown hK hP 0 rfl rfl 4 (by decide) (hts (.fieldLink RX3 21 "DuelFrames$Lab" "row" "[I") (List.mem_of_getElem? (i := 3) rfl)) (fun _ h9 => h9) rfl dX3_keepIfBest_24 ?_
      refine lv_iconst (v := 0) hx hb dX3_keepIfBest_27 (by decide) ?_
      refine lv_aload_n hx hb dX3_keepIfBest_28 rfl (lv_at hl 0 rfl) ?_
      refine va_get (D := (dC, dI)) (ci := 3) (v := .ref qS) (C := RX3) (T := TX3) (N := 7) hx hb hts inw_X3_keepIfBest_X3 hown hK hP 0 rfl rfl 5 (by decide) (hts (.fieldLink RX3 25 "DuelFrames$Lab" "best" "[I") (List.mem_of_getElem? (i := 4) rfl)) (fun _ h9 => h9) rfl dX3_keepIfBest_29 ?_
      refine lv_iconst (v := 0) hx hb dX3_keepIfBest_32 (by decide) ?_
      refine lv_iload_n hx hb dX3_keepIfBest_33 rfl (lv_at hl 2 rfl) ?_
      refine va_copyi hx hb (by rw [hml]; exact hl.1.symm) hown (hts (.methodLink RX3 110 arraycopyName) (List.mem_of_getElem? (i := 5) rfl)) (hts (.native arraycopyName) (List.mem_of_getElem? (i := 6) rfl)) (hts (.static arraycopyName) (List.mem_of_getElem? (i := 7) rfl)) (hts (.initialized "java/lang/System") (List.mem_of_getElem? (i := 8) rfl)) hK hP hD hS 1 2 0 0 rfl rfl rfl rfl rfl (sp := 0) (dp := 0) (n := hits) (by decide) (by decide) (Int32.not_lt.mpr h0) (kib_le h0 (Int32.not_lt.mp c_5)) (kib_le h0 (Int32.not_lt.mp c_5)) (fun i _ => rfl) (Nat.le_of_ble_eq_true rfl) (by decide +kernel) dX3_keepIfBest_34 (fun H locs hP1 hD1 hS1 => ?_)
      clear hP hD hS
      have hP : va_P (dC, dI) vwCl [(qL, .inr (3, [.int loss, .ref (AD 0), .ref qd, .ref qB, .ref qR, .ref qS, .int hits])), (qR, .inl (cY 0, 4, .inl rr)), (qS, .inl (cY 0, 4, .inl (va_cpy rr bs 0 0 hits.toNatClampNeg)))] H := hP1
      have hD : va_D A [(qL, .inr (3, [.int loss, .ref (AD 0), .ref qd, .ref qB, .ref qR, .ref qS, .int hits])), (qR, .inl (cY 0, 4, .inl rr)), (qS, .inl (cY 0, 4, .inl (va_cpy rr bs 0 0 hits.toNatClampNeg)))] := hD1
      have hS := hS1
      clear hP1 hD1 hS1
      have eo_9 : (X3_keepIfBest_0_0 bl hits loss) = loss := by rw [X3_keepIfBest_0_0]; simp only [eq_false c_1, eq_false c_5, ↓reduceIte]
      have eo_10 : (X3_keepIfBest_0_6 bh bl hits loss) = hits := by rw [X3_keepIfBest_0_6]; simp only [eq_false c_1, eq_false c_5, ↓reduceIte]
      have eo_11 : (X3_keepIfBest_w2 bl bs hits loss rr) = (va_cpy rr bs 0 0 hits.toNatClampNeg) := by rw [X3_keepIfBest_w2]; simp only [eq_false c_1, eq_false c_5, ↓reduceIte]
      have hP9 : va_P (dC, dI) vwCl [(qL, .inr (3, [.int (X3_keepIfBest_0_0 bl hits loss), .ref (AD 0), .ref qd, .ref qB, .ref qR, .ref qS, .int (X3_keepIfBest_0_6 bh bl hits loss)])), (qR, .inl (cY 0, 4, .inl rr)), (qS, .inl (cY 0, 4, .inl (X3_keepIfBest_w2 bl bs hits loss rr)))] H := by simp only [eo_9, eo_10, eo_11]; exact hP
      have hD9 : va_D A [(qL, .inr (3, [.int (X3_keepIfBest_0_0 bl hits loss), .ref (AD 0), .ref qd, .ref qB, .ref qR, .ref qS, .int (X3_keepIfBest_0_6 bh bl hits loss)])), (qR, .inl (cY 0, 4, .inl rr)), (qS, .inl (cY 0, 4, .inl (X3_keepIfBest_w2 bl bs hits loss rr)))] := by simp only [eo_9, eo_10, eo_11]; exact hD
      exact W.vret hx hb hr (fun t ht hW => ⟨⟨(), rfl, trivial, wPost_of hP9 hD9 ht⟩, hS.F ht⟩) hS.2.2 dX3_keepIfBest_37
theorem inw_X3_clearRows_X3 : ∀ w ∈ u_ws RX3 TX3 7, w ∈ wsX3_clearRows := fun _ h => List.mem_cons_of_mem _ (List.mem_append_left _ (List.mem_append_left _ (List.mem_append_right _ h)))
def X3_clearRows_w3 (F : Nat → Int32) (meter : Int32) : Nat → Int32 := (X1_prepare_w1 F 20 meter)
def X3_clearRows_w4 (G : Nat → Int32) : Nat → Int32 := (X1_prepare_w2 G 20 100)
set_option maxHeartbeats 4000000 in
set_option maxRecDepth 100000 in
theorem c_X3_clearRows (l : Launch) (dC : Nat → ClassId) (dI : Nat → Nat → Nat) (cY : Nat → ClassId) (qL : Nat) (qd : Nat) (qB : Nat) (qR : Nat) (qS : Nat) (AD : Nat → Nat) (bl : Int32) (bh : Int32) (HQ : Nat → Nat) (F : Nat → Int32) (G : Nat → Int32) (meter : Int32)  (sz : Nat) : Met l yX3_clearRows wsX3_clearRows ({ frames := 4, cells := 0, slots := 0, locals := 85 } : Room) (va_Pc [.ref qL, .int meter] (wPre (dC, dI) (tyL cY) [(qL, .inr (3, [.int bl, .ref (AD 0), .ref qd, .ref qB, .ref qR, .ref qS, .int bh])), (qB, .inl (cY 3, 5, .inr (.inr (.inr (.inr (fun j => some (HQ j))))))), (HQ 0, .inr (1, [.ref (AD 0), .ref (HQ 5), .ref (HQ 10)])), (HQ 5, .inr (2, figL F)), (HQ 10, .inr (2, figL G))] sz)) (va_Qv (fun _ : Unit => True) (wPost (dC, dI) [(qL, .inr (3, [.int 0, .ref (AD 0), .ref qd, .ref qB, .ref qR, .ref qS, .int 0])), (qB, .inl (cY 3, 5, .inr (.inr (.inr (.inr (fun j => some (HQ j))))))), (HQ 0, .inr (1, [.ref (AD 0), .ref (HQ 5), .ref (HQ 10)])), (HQ 5, .inr (2, figL (X3_clearRows_w3 F meter))), (HQ 10, .inr (2, figL (X3_clearRows_w4 G)))] (va_A [(qL, .inr (3, [.int bl, .ref (AD 0), .ref qd, .ref qB, .ref qR, .ref qS, .int bh])), (qB, .inl (cY 3, 5, .inr (.inr (.inr (.inr (fun j => some (HQ j))))))), (HQ 0, .inr (1, [.ref (AD 0), .ref (HQ 5), .ref (HQ 10)])), (HQ 5, .inr (2, figL F)), (HQ 10, .inr (2, figL G))] sz)) (va_A [(qL, .inr (3, [.int bl, .ref (AD 0), .ref qd, .ref qB, .ref qR, .ref qS, .int bh])), (qB, .inl (cY 3, 5, .inr (.inr (.inr (.inr (fun j => some (HQ j))))))), (HQ 0, .inr (1, [.ref (AD 0), .ref (HQ 5), .ref (HQ 10)])), (HQ 5, .inr (2, figL F)), (HQ 10, .inr (2, figL G))] sz)) 0 0 (va_A [(qL, .inr (3, [.int bl, .ref (AD 0), .ref qd, .ref qB, .ref qR, .ref qS, .int bh])), (qB, .inl (cY 3, 5, .inr (.inr (.inr (.inr (fun j => some (HQ j))))))), (HQ 0, .inr (1, [.ref (AD 0), .ref (HQ 5), .ref (HQ 10)])), (HQ 5, .inr (2, figL F)), (HQ 10, .inr (2, figL G))] sz) := by
  refine Met.ofW (cc := cX3_clearRows) (maxL := 2) (ret := none) (by decide) rfl ?_
  intro p e s m args below meth c s₁ B hml hv
  obtain ⟨rfl, hsz, hP, hK, hN, hD0⟩ := hv
  have hx := B.exec
  have hb := B.bytes
  have hr := B.returns
  have hts := atoms_spec (ws := wsX3_clearRows) B.pre
  have hown : s.vm.findClass RX3 = some m.cls := findClass_of_methodNamed B.named
  have hlocks := B.notSynchronized
  subst hsz
  have hD := hD0.self (sz := s.heap.size)
  generalize hAe : va_A [(qL, .inr (3, [.int bl, .ref (AD 0), .ref qd, .ref qB, .ref qR, .ref qS, .int bh])), (qB, .inl (cY 3, 5, .inr (.inr (.inr (.inr (fun j => some (HQ j))))))), (HQ 0, .inr (1, [.ref (AD 0), .ref (HQ 5), .ref (HQ 10)])), (HQ 5, .inr (2, figL F)), (HQ 10, .inr (2, figL G))] s.heap.size = A at hD ⊢
  have hA : ∀ q : Nat, s.heap.size ≤ q → A q := fun q h => by rw [← hAe]; exact Or.inr h
  have hS : va_S A s.heap s.heap [] := va_S.rf
  have hP : va_P (dC, dI) vwCl [(qL, .inr (3, [.int bl, .ref (AD 0), .ref qd, .ref qB, .ref qR, .ref qS, .int bh])), (qB, .inl (cY 3, 5, .inr (.inr (.inr (.inr (fun j => some (HQ j))))))), (HQ 0, .inr (1, [.ref (AD 0), .ref (HQ 5), .ref (HQ 10)])), (HQ 5, .inr (2, figL F)), (HQ 10, .inr (2, figL G))] s.heap := hP
  have hl := lv_entry ([.ref qL, .int meter]) (n := 2) (Nat.le_of_ble_eq_true rfl)
  rw [lg_entry_eq]
  generalize (lg_sl ([.ref qL, .int meter]) ++ List.replicate (2 - (lg_sl ([.ref qL, .int meter])).length) Slot.unset).toArray = ls at hl ⊢
  have hl : lv_has ls 2 [(0, .ref qL), (1, .int meter)] := hl
  refine lv_aload_n hx hb dX3_clearRows_0 rfl (lv_at hl 0 rfl) ?_
  refine lv_iconst (v := 0) hx hb dX3_clearRows_1 (by decide) ?_
  refine va_put (D := (dC, dI)) (ci := 3) (v := .int 0) (ty := .int) (C := RX3) (T := TX3) (N := 7) hx hb hts inw_X3_clearRows_X3 tyX3 tyX3_ok nmX3 hown hK hP hD hS 0 rfl rfl 0 (by decide) (hts (.fieldLink RX3 9 "DuelFrames$Lab" "bestLoss" "I") (List.mem_of_getElem? (i := 1) rfl)) (fun _ h9 => h9) rfl (by decide +kernel) rfl rfl (Nat.le_of_ble_eq_true rfl) dX3_clearRows_2 (fun H locs hP1 hD1 hS1 => ?_)
  clear hP hD hS
  have hP : va_P (dC, dI) vwCl [(qL, .inr (3, [.int 0, .ref (AD 0), .ref qd, .ref qB, .ref qR, .ref qS, .int bh])), (qB, .inl (cY 3, 5, .inr (.inr (.inr (.inr (fun j => some (HQ j))))))), (HQ 0, .inr (1, [.ref (AD 0), .ref (HQ 5), .ref (HQ 10)])), (HQ 5, .inr (2, figL F)), (HQ 10, .inr (2, figL G))] H := hP1
  have hD : va_D A [(qL, .inr (3, [.int 0, .ref (AD 0), .ref qd, .ref qB, .ref qR, .ref qS, .int bh])), (qB, .inl (cY 3, 5, .inr (.inr (.inr (.inr (fun j => some (HQ j))))))), (HQ 0, .inr (1, [.ref (AD 0), .ref (HQ 5), .ref (HQ 10)])), (HQ 5, .inr (2, figL F)), (HQ 10, .inr (2, figL G))] := hD1
  have hS := hS1
  clear hP1 hD1 hS1
  refine lv_aload_n hx hb dX3_clearRows_5 rfl (lv_at hl 0 rfl) ?_
  refine lv_iconst (v := 0) hx hb dX3_clearRows_6 (by decide) ?_
  refine va_put (D := (dC, dI)) (ci := 3) (v := .int 0) (ty := .int) (C := RX3) (T := TX3) (N := 7) hx hb hts inw_X3_clearRows_X3 tyX3 tyX3_ok nmX3 hown hK hP hD hS 0 rfl rfl 6 (by decide) (hts (.fieldLink RX3 28 "DuelFrames$Lab" "bestHits" "I") (List.mem_of_getElem? (i := 2) rfl)) (fun _ h9 => h9) rfl (by decide +kernel) rfl rfl (Nat.le_of_ble_eq_true rfl) dX3_clearRows_7 (fun H locs hP1 hD1 hS1 => ?_)
  clear hP hD hS
  have hP : va_P (dC, dI) vwCl [(qL, .inr (3, [.int 0, .ref (AD 0), .ref qd, .ref qB, .ref qR, .ref qS, .int 0])), (qB, .inl (cY 3, 5, .inr (.inr (.inr (.inr (fun j => some (HQ j))))))), (HQ 0, .inr (1, [.ref (AD 0), .ref (HQ 5), .ref (HQ 10)])), (HQ 5, .inr (2, figL F)), (HQ 10, .inr (2, figL G))] H := hP1
  have hD : va_D A [(qL, .inr (3, [.int 0, .ref (AD 0), .ref qd, .ref qB, .ref qR, .ref qS, .int 0])), (qB, .inl (cY 3, 5, .inr (.inr (.inr (.inr (fun j => some (HQ j))))))), (HQ 0, .inr (1, [.ref (AD 0), .ref (HQ 5), .ref (HQ 10)])), (HQ 5, .inr (2, figL F)), (HQ 10, .inr (2, figL G))] := hD1
  have hS := hS1
  clear hP1 hD1 hS1
  refine lv_aload_n hx hb dX3_clearRows_10 rfl (lv_at hl 0 rfl) ?_
  refine va_get (D := (dC, dI)) (ci := 3) (v := .ref qB) (C := RX3) (T := TX3) (N := 7) hx hb hts inw_X3_clearRows_X3 hown hK hP 0 rfl rfl 3 (by decide) (hts (.fieldLink RX3 17 "DuelFrames$Lab" "behindHits" "[LDuelFrames$Duel;") (List.mem_of_getElem? (i := 3) rfl)) (fun _ h9 => h9) rfl dX3_clearRows_11 ?_
  refine lv_iconst (v := 0) hx hb dX3_clearRows_14 (by decide) ?_
  refine va_aldq hx hb hK hP 1 3 rfl rfl (vin rfl) dX3_clearRows_15 ?_
  refine W.eq (g2 := F0 m 16 ls [.ref (HQ 0)]) rfl ?_
  refine lv_bipush (v := 20) hx hb dX3_clearRows_16 (by decide) ?_
  refine lv_iload_n hx hb dX3_clearRows_18 rfl (lv_at hl 1 rfl) ?_
  refine lv_bipush (v := 100) hx hb dX3_clearRows_19 (by decide) ?_
  have hPc := hP.sub (ws' := [(HQ 0, .inr (1, [.ref (AD 0), .ref (HQ 5), .ref (HQ 10)])), (HQ 5, .inr (2, figL F)), (HQ 10, .inr (2, figL G))]) [2, 3, 4] rfl
  have hDc := hD.sub (ws' := [(HQ 0, .inr (1, [.ref (AD 0), .ref (HQ 5), .ref (HQ 10)])), (HQ 5, .inr (2, figL F)), (HQ 10, .inr (2, figL G))]) [2, 3, 4] (by decide) rfl
  have hFc := va_free (wc := [(HQ 0, .inr (1, [.ref (AD 0), .ref (HQ 5), .ref (HQ 10)])), (HQ 5, .inr (2, figL F)), (HQ 10, .inr (2, figL G))]) hD hS hA [2, 3, 4] rfl
  refine va_callv (va_runV (As := [.int 20, .int meter, .int 100]) (rest := []) ⟨hx, hb, hml, hown, hts⟩ (c_X1_prepare l dC dI cY (HQ 0) (AD 0) (HQ 5) (HQ 10) F G 20 meter 100 H.size) (cwV 3 hts gX3_clearRows_X1_prepare rfl rfl rfl (by decide +kernel) ⟨Nat.le_of_ble_eq_true rfl, Nat.le_of_ble_eq_true rfl⟩) ⟨blindW, va_recv hK hPc (ci := 1) (q0 := 0) rfl rfl, fun U hU hW => ⟨rfl, wPre_of hPc hK hN hDc U hU hW⟩⟩ rfl rfl hl.1 rfl (lv_room (Nat.le_of_ble_eq_true rfl)) dX3_clearRows_21 ⟨Nat.zero_le _, Nat.zero_le _⟩) hS (fun q _ h => hFc q h) hFc (fun u t H1 locs ht hvm hw hB hz1 hk1 hS1 => ?_)
  have hJ := wJoin (wr := [(qL, .inr (3, [.int 0, .ref (AD 0), .ref qd, .ref qB, .ref qR, .ref qS, .int 0])), (qB, .inl (cY 3, 5, .inr (.inr (.inr (.inr (fun j => some (HQ j)))))))]) (w1 := [(HQ 0, .inr (1, [.ref (AD 0), .ref (HQ 5), .ref (HQ 10)])), (HQ 5, .inr (2, figL (X1_prepare_w1 F 20 meter))), (HQ 10, .inr (2, figL (X1_prepare_w2 G 20 100)))]) (wn := [(qL, .inr (3, [.int 0, .ref (AD 0), .ref qd, .ref qB, .ref qR, .ref qS, .int 0])), (qB, .inl (cY 3, 5, .inr (.inr (.inr (.inr (fun j => some (HQ j))))))), (HQ 0, .inr (1, [.ref (AD 0), .ref (HQ 5), .ref (HQ 10)])), (HQ 5, .inr (2, figL (X1_prepare_w1 F 20 meter))), (HQ 10, .inr (2, figL (X1_prepare_w2 G 20 100)))]) hP hD [2, 3, 4] [0, 1] rfl rfl (by decide) (by decide) hk1 hFc hB ht [0, 1, 2, 3, 4] rfl (by decide)
  clear hB hk1 hFc hPc hDc hP hD hS hz1 hvm ht t
  obtain ⟨hP1, hD1⟩ := hJ
  generalize H1 = H at hP1 hS1 ⊢
  have hP : va_P (dC, dI) vwCl [(qL, .inr (3, [.int 0, .ref (AD 0), .ref qd, .ref qB, .ref qR, .ref qS, .int 0])), (qB, .inl (cY 3, 5, .inr (.inr (.inr (.inr (fun j => some (HQ j))))))), (HQ 0, .inr (1, [.ref (AD 0), .ref (HQ 5), .ref (HQ 10)])), (HQ 5, .inr (2, figL (X1_prepare_w1 F 20 meter))), (HQ 10, .inr (2, figL (X1_prepare_w2 G 20 100)))] H := hP1
  have hD : va_D A [(qL, .inr (3, [.int 0, .ref (AD 0), .ref qd, .ref qB, .ref qR, .ref qS, .int 0])), (qB, .inl (cY 3, 5, .inr (.inr (.inr (.inr (fun j => some (HQ j))))))), (HQ 0, .inr (1, [.ref (AD 0), .ref (HQ 5), .ref (HQ 10)])), (HQ 5, .inr (2, figL (X1_prepare_w1 F 20 meter))), (HQ 10, .inr (2, figL (X1_prepare_w2 G 20 100)))] := hD1
  have hS := hS1
  clear hP1 hD1 hS1
  obtain ⟨z_2, ez_2⟩ : ∃ z, z = (X1_prepare_w1 F 20 meter) := ⟨_, rfl⟩
  rw [← ez_2] at hP hD
  obtain ⟨z_3, ez_3⟩ : ∃ z, z = (X1_prepare_w2 G 20 100) := ⟨_, rfl⟩
  rw [← ez_3] at hP hD
  have eo_4 : (X3_clearRows_w3 F meter) = z_2 := by rw [X3_clearRows_w3]; (try simp only [← ez_2, ← ez_3])
  have eo_5 : (X3_clearRows_w4 G) = z_3 := by rw [X3_clearRows_w4]; (try simp only [← ez_2, ← ez_3])
  have hP9 : va_P (dC, dI) vwCl [(qL, .inr (3, [.int 0, .ref (AD 0), .ref qd, .ref qB, .ref qR, .ref qS, .int 0])), (qB, .inl (cY 3, 5, .inr (.inr (.inr (.inr (fun j => some (HQ j))))))), (HQ 0, .inr (1, [.ref (AD 0), .ref (HQ 5), .ref (HQ 10)])), (HQ 5, .inr (2, figL (X3_clearRows_w3 F meter))), (HQ 10, .inr (2, figL (X3_clearRows_w4 G)))] H := by simp only [eo_4, eo_5]; exact hP
  have hD9 : va_D A [(qL, .inr (3, [.int 0, .ref (AD 0), .ref qd, .ref qB, .ref qR, .ref qS, .int 0])), (qB, .inl (cY 3, 5, .inr (.inr (.inr (.inr (fun j => some (HQ j))))))), (HQ 0, .inr (1, [.ref (AD 0), .ref (HQ 5), .ref (HQ 10)])), (HQ 5, .inr (2, figL (X3_clearRows_w3 F meter))), (HQ 10, .inr (2, figL (X3_clearRows_w4 G)))] := by simp only [eo_4, eo_5]; exact hD
  exact W.vret hx hb hr (fun t ht hW => ⟨⟨(), rfl, trivial, wPost_of hP9 hD9 ht⟩, hS.F ht⟩) hS.2.2 dX3_clearRows_24
