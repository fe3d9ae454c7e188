/-! the constructors -/
def vO (U : State) : Prop := va_AO RX4 U ∧ va_AO RX1 U
def iPre (D : va_G) (tys : List (ClassId × FieldType)) (ws : va_W) (sz : Nat) : State → Prop := fun U => wPre D tys ws sz U ∧ vO U
theorem iPre_of {D : va_G} {tys : List (ClassId × FieldType)} {ws : va_W} {s : State} {H : Heap} {A : Nat → Prop} (hP : va_P D vwCl ws H) (hK : va_K D vwCl tys s) (hN : vN s) (hO : vO s) (hD : va_D A ws) : ∀ U : State, U.heap = H → s.WarmedH U.vm → iPre D tys ws H.size U := fun U hU hW => ⟨wPre_of hP hK hN hD U hU hW, va_AO.moved hW.alike hO.1, va_AO.moved hW.alike hO.2⟩
theorem blindI {av : List Value} {D : va_G} {tys : List (ClassId × FieldType)} {ws : va_W} {sz : Nat} : FrameBlind (va_Pc av (iPre D tys ws sz)) := fun a U g mk q => by
  obtain ⟨q0, ⟨q1, qP, qK, qN, qD⟩, qO⟩ := q
  exact ⟨q0, ⟨q1, qP, va_K.moved (u := U) (U := U.calling g mk a) (Vm.Alike.refl U.vm) qK, vN.same (u := U) (U := U.calling g mk a) rfl qN, qD⟩, va_AO.moved (u := U) (U := U.calling g mk a) (Vm.Alike.refl U.vm) qO.1, va_AO.moved (u := U) (U := U.calling g mk a) (Vm.Alike.refl U.vm) qO.2⟩
theorem ra_i {s : State} {a b : ClassId} (h1 : va_RA s a .int) (h2 : va_RA s b .int) : a = b := by
  have x : s.vm.findClass ("[" ++ (FieldType.int).toString) = some a := h1
  have y : s.vm.findClass ("[" ++ (FieldType.int).toString) = some b := h2
  rw [x] at y
  exact Option.some.inj y
theorem ra_z {s : State} {a b : ClassId} (h1 : va_RA s a .boolean) (h2 : va_RA s b .boolean) : a = b := by
  have x : s.vm.findClass ("[" ++ (FieldType.boolean).toString) = some a := h1
  have y : s.vm.findClass ("[" ++ (FieldType.boolean).toString) = some b := h2
  rw [x] at y
  exact Option.some.inj y
theorem ra_j {s : State} {a b : ClassId} (h1 : va_RA s a .long) (h2 : va_RA s b .long) : a = b := by
  have x : s.vm.findClass ("[" ++ (FieldType.long).toString) = some a := h1
  have y : s.vm.findClass ("[" ++ (FieldType.long).toString) = some b := h2
  rw [x] at y
  exact Option.some.inj y
theorem ra_o {s : State} {C : String} {a b : ClassId} (h1 : va_RA s a (.object C)) (h2 : va_RA s b (.object C)) : a = b := by
  obtain ⟨_, _, _, _, _, x⟩ := h1
  obtain ⟨_, _, _, _, _, y⟩ := h2
  rw [x] at y
  exact Option.some.inj y
theorem va_D.like {A : Nat → Prop} {w1 w2 : va_W} (h : va_D A w1) (e : w1.map Prod.fst = w2.map Prod.fst) : va_D A w2 := by
  have key : ∀ (i : Nat) (p : Nat × va_E), w2[i]? = some p → ∃ q : Nat × va_E, w1[i]? = some q ∧ q.1 = p.1 := by
    intro i p hp
    have h2 : (w2.map Prod.fst)[i]? = some p.1 := by rw [List.getElem?_map, hp]; rfl
    rw [← e, List.getElem?_map] at h2
    cases hq : w1[i]? with
    | none => rw [hq] at h2; exact absurd h2 (by simp)
    | some q => rw [hq] at h2; exact ⟨q, rfl, Option.some.inj h2⟩
  refine ⟨fun i j p q hi hj hpq => ?_, fun k q hk => ?_⟩
  · obtain ⟨p1, a1, b1⟩ := key i p hi
    obtain ⟨q1, a2, b2⟩ := key j q hj
    exact h.1 i j p1 q1 a1 a2 (by rw [b1, b2, hpq])
  · obtain ⟨q1, a1, b1⟩ := key k q hk
    rw [← b1]
    exact h.2 k q1 a1
def X2_init_w0 (F : Nat → Int32) (b : Int32) : Nat → Int32 := (upd (upd (upd (upd (upd (upd (upd (upd (upd (upd (upd (upd (upd (upd (upd (upd F 0 0) 1 0) 2 0) 3 0) 4 0) 5 (-1)) 6 0) 7 (-1)) 8 0) 9 (-1)) 10 0) 11 0) 12 0) 13 0) 14 0) 15 b)
theorem inw_X0_init_X0 : ∀ w ∈ u_ws RX0 TX0 3, w ∈ wsX0_init := fun _ h => List.mem_cons_of_mem _ (List.mem_append_right _ h)
theorem c_X0_init (l : Launch) (dC : Nat → ClassId) (dI : Nat → Nat → Nat) (cY : Nat → ClassId) (h0 : Nat) (sz : Nat) : Met l yX0_init wsX0_init ({ frames := 1, cells := 0, slots := 0, locals := 20 } : Room) (va_Pc [.ref h0] (wPre (dC, dI) (tyL cY) [(h0, .inr (0, [.int 0, .int 0, .int 0]))] sz)) (va_Qv (fun _ : Unit => True) (fun _ : Unit => wPost (dC, dI) [(h0, .inr (0, [.int 0, .int 0, .int 0]))] (va_A [(h0, .inr (0, [.int 0, .int 0, .int 0]))] sz) ()) (va_A [(h0, .inr (0, [.int 0, .int 0, .int 0]))] sz)) 0 0 (va_A [(h0, .inr (0, [.int 0, .int 0, .int 0]))] sz) := by
  refine Met.ofW (cc := cX0_init) (maxL := 1) (ret := none) (by decide) rfl ?_
  intro p e s m args below meth c s₁ B hml hv
  obtain ⟨rfl, hsz, hP, hK, hN, hD0⟩ := hv
  have hx := B.exec
  have hb := B.bytes
  have hr := B.returns
  have hts := atoms_spec (ws := wsX0_init) B.pre
  have hown : s.vm.findClass RX0 = some m.cls := findClass_of_methodNamed B.named
  have hlocks := B.notSynchronized
  have hin : meth.name = "<init>" := (name_of_methodNamed B.named B.method).1
  subst hsz
  have hD := hD0.self (sz := s.heap.size)
  generalize hAe : va_A [(h0, .inr (0, [.int 0, .int 0, .int 0]))] s.heap.size = A at hD ⊢
  have hA : ∀ q : Nat, s.heap.size ≤ q → A q := fun q h => by rw [← hAe]; exact Or.inr h
  have hS : va_S A s.heap s.heap [] := va_S.rf
  have hP : va_P (dC, dI) vwCl [(h0, .inr (0, [.int 0, .int 0, .int 0]))] s.heap := hP
  have hl := lv_entry ([.ref h0]) (n := 1) (Nat.le_of_ble_eq_true rfl)
  rw [lg_entry_eq]
  generalize (lg_sl ([.ref h0]) ++ List.replicate (1 - (lg_sl ([.ref h0])).length) Slot.unset).toArray = ls at hl ⊢
  have hl : lv_has ls 1 [(0, .ref h0)] := hl
  refine lv_aload_n hx hb dX0_init_0 rfl (lv_at hl 0 rfl) ?_
  refine W.objInit hx hb hown (hts (.methodLink RX0 3 objectInit) (List.mem_of_getElem? (i := 1) rfl)) (hts (.instanceMethod objectInit) (List.mem_of_getElem? (i := 2) rfl)) (hts (.code objectInit ⟨#[0xb1]⟩ 1 none) (List.mem_of_getElem? (i := 3) rfl)) rfl (by rw [hml]; exact hl.1) rfl dX0_init_1 (Nat.le_of_ble_eq_true rfl) (Nat.le_of_ble_eq_true rfl) ?_
  refine W.eq (g2 := F0 m 4 ls []) rfl ?_
  refine lv_aload_n hx hb dX0_init_4 rfl (lv_at hl 0 rfl) ?_
  refine lv_iconst (v := 0) hx hb dX0_init_5 (by decide) ?_
  refine va_put (D := (dC, dI)) (ci := 0) (v := .int 0) (ty := .int) (C := RX0) (T := TX0) (N := 3) hx hb hts inw_X0_init_X0 tyX0 tyX0_ok nmX0 hown hK hP hD hS 0 rfl rfl 0 (by decide) (hts (.fieldLink RX0 9 "DuelFrames$Bout" "begun" "I") (List.mem_of_getElem? (i := 4) rfl)) (fun _ h9 => h9) rfl (by decide +kernel) rfl rfl (Nat.le_of_ble_eq_true rfl) dX0_init_6 (fun H locs hP1 hD1 hS1 => ?_)
  clear hP hD hS
  have hP : va_P (dC, dI) vwCl [(h0, .inr (0, [.int 0, .int 0, .int 0]))] H := hP1
  have hD : va_D A [(h0, .inr (0, [.int 0, .int 0, .int 0]))] := hD1
  have hS := hS1
  clear hP1 hD1 hS1
  refine lv_aload_n hx hb dX0_init_9 rfl (lv_at hl 0 rfl) ?_
  refine lv_iconst (v := 0) hx hb dX0_init_10 (by decide) ?_
  refine va_put (D := (dC, dI)) (ci := 0) (v := .int 0) (ty := .int) (C := RX0) (T := TX0) (N := 3) hx hb hts inw_X0_init_X0 tyX0 tyX0_ok nmX0 hown hK hP hD hS 0 rfl rfl 1 (by decide) (hts (.fieldLink RX0 15 "DuelFrames$Bout" "leftWins" "I") (List.mem_of_getElem? (i := 5) rfl)) (fun _ h9 => h9) rfl (by decide +kernel) rfl rfl (Nat.le_of_ble_eq_true rfl) dX0_init_11 (fun H locs hP1 hD1 hS1 => ?_)
  clear hP hD hS
  have hP : va_P (dC, dI) vwCl [(h0, .inr (0, [.int 0, .int 0, .int 0]))] H := hP1
  have hD : va_D A [(h0, .inr (0, [.int 0, .int 0, .int 0]))] := hD1
  have hS := hS1
  clear hP1 hD1 hS1
  refine lv_aload_n hx hb dX0_init_14 rfl (lv_at hl 0 rfl) ?_
  refine lv_iconst (v := 0) hx hb dX0_init_15 (by decide) ?_
  refine va_put (D := (dC, dI)) (ci := 0) (v := .int 0) (ty := .int) (C := RX0) (T := TX0) (N := 3) hx hb hts inw_X0_init_X0 tyX0 tyX0_ok nmX0 hown hK hP hD hS 0 rfl rfl 2 (by decide) (hts (.fieldLink RX0 18 "DuelFrames$Bout" "rightWins" "I") (List.mem_of_getElem? (i := 6) rfl)) (fun _ h9 => h9) rfl (by decide +kernel) rfl rfl (Nat.le_of_ble_eq_true rfl) dX0_init_16 (fun H locs hP1 hD1 hS1 => ?_)
  clear hP hD hS
  have hP : va_P (dC, dI) vwCl [(h0, .inr (0, [.int 0, .int 0, .int 0]))] H := hP1
  have hD : va_D A [(h0, .inr (0, [.int 0, .int 0, .int 0]))] := hD1
  have hS := hS1
  clear hP1 hD1 hS1
  have hP9 := hP.sub (ws' := [(h0, .inr (0, [.int 0, .int 0, .int 0]))]) [0] rfl
  have hD9 := hD.sub (ws' := [(h0, .inr (0, [.int 0, .int 0, .int 0]))]) [0] (by decide +kernel) rfl
  refine W.widen (k := 0) (n := 0) (Nat.le_of_ble_eq_true rfl) (Nat.le_of_ble_eq_true rfl) ?_
  exact W.vret hx hb hr (fun t ht hW => ⟨⟨(), rfl, trivial, wPost_of hP9 hD9 ht⟩, hS.F ht⟩) hS.2.2 dX0_init_19
theorem inw_X2_init_X2 : ∀ w ∈ u_ws RX2 TX2 16, w ∈ wsX2_init := fun _ h => List.mem_cons_of_mem _ (List.mem_append_right _ h)
theorem c_X2_init (l : Launch) (dC : Nat → ClassId) (dI : Nat → Nat → Nat) (cY : Nat → ClassId) (h0 : Nat) (F : Nat → Int32) (b : Int32) (hbo : b = 0 ∨ b = 1) (sz : Nat) : Met l yX2_init wsX2_init ({ frames := 1, cells := 0, slots := 0, locals := 20 } : Room) (va_Pc [.ref h0, .int b] (wPre (dC, dI) (tyL cY) [(h0, .inr (2, figL F))] sz)) (va_Qv (fun _ : Unit => True) (fun _ : Unit => wPost (dC, dI) [(h0, .inr (2, figL (X2_init_w0 F b)))] (va_A [(h0, .inr (2, figL F))] sz) ()) (va_A [(h0, .inr (2, figL F))] sz)) 0 0 (va_A [(h0, .inr (2, figL F))] sz) := by
  refine Met.ofW (cc := cX2_init) (maxL := 2) (ret := none) (by decide) rfl ?_
  intro p e s m args below meth c s₁ B hml hv
  obtain ⟨rfl, hsz, hP, hK, hN, hD0⟩ := hv
  have hx := B.exec
  have hb := B.bytes
  have hr := B.returns
  have hts := atoms_spec (ws := wsX2_init) B.pre
  have hown : s.vm.findClass RX2 = some m.cls := findClass_of_methodNamed B.named
  have hlocks := B.notSynchronized
  have hin : meth.name = "<init>" := (name_of_methodNamed B.named B.method).1
  subst hsz
  have hD := hD0.self (sz := s.heap.size)
  generalize hAe : va_A [(h0, .inr (2, figL F))] s.heap.size = A at hD ⊢
  have hA : ∀ q : Nat, s.heap.size ≤ q → A q := fun q h => by rw [← hAe]; exact Or.inr h
  have hS : va_S A s.heap s.heap [] := va_S.rf
  have hP : va_P (dC, dI) vwCl [(h0, .inr (2, figL F))] s.heap := hP
  have hl := lv_entry ([.ref h0, .int b]) (n := 2) (Nat.le_of_ble_eq_true rfl)
  rw [lg_entry_eq]
  generalize (lg_sl ([.ref h0, .int b]) ++ List.replicate (2 - (lg_sl ([.ref h0, .int b])).length) Slot.unset).toArray = ls at hl ⊢
  have hl : lv_has ls 2 [(0, .ref h0), (1, .int b)] := hl
  refine lv_aload_n hx hb dX2_init_0 rfl (lv_at hl 0 rfl) ?_
  refine W.objInit hx hb hown (hts (.methodLink RX2 3 objectInit) (List.mem_of_getElem? (i := 1) rfl)) (hts (.instanceMethod objectInit) (List.mem_of_getElem? (i := 2) rfl)) (hts (.code objectInit ⟨#[0xb1]⟩ 1 none) (List.mem_of_getElem? (i := 3) rfl)) rfl (by rw [hml]; exact hl.1) rfl dX2_init_1 (Nat.le_of_ble_eq_true rfl) (Nat.le_of_ble_eq_true rfl) ?_
  refine W.eq (g2 := F0 m 4 ls []) rfl ?_
  refine lv_aload_n hx hb dX2_init_4 rfl (lv_at hl 0 rfl) ?_
  refine lv_iconst (v := 0) hx hb dX2_init_5 (by decide) ?_
  refine va_put (D := (dC, dI)) (ci := 2) (v := .int 0) (ty := .int) (C := RX2) (T := TX2) (N := 16) hx hb hts inw_X2_init_X2 tyX2 tyX2_ok nmX2 hown hK hP hD hS 0 rfl rfl 0 (by decide) (hts (.fieldLink RX2 9 "DuelFrames$Figure" "place" "I") (List.mem_of_getElem? (i := 4) rfl)) (fun _ h9 => h9) rfl (by decide +kernel) rfl rfl (Nat.le_of_ble_eq_true rfl) dX2_init_6 (fun H locs hP1 hD1 hS1 => ?_)
  clear hP hD hS
  have hP : va_P (dC, dI) vwCl [(h0, .inr (2, figL (upd F 0 0)))] H := hP1
  have hD : va_D A [(h0, .inr (2, figL (upd F 0 0)))] := hD1
  have hS := hS1
  clear hP1 hD1 hS1
  refine lv_aload_n hx hb dX2_init_9 rfl (lv_at hl 0 rfl) ?_
  refine lv_iconst (v := 0) hx hb dX2_init_10 (by decide) ?_
  refine va_put (D := (dC, dI)) (ci := 2) (v := .int 0) (ty := .int) (C := RX2) (T := TX2) (N := 16) hx hb hts inw_X2_init_X2 tyX2 tyX2_ok nmX2 hown hK hP hD hS 0 rfl rfl 1 (by decide) (hts (.fieldLink RX2 15 "DuelFrames$Figure" "life" "I") (List.mem_of_getElem? (i := 5) rfl)) (fun _ h9 => h9) rfl (by decide +kernel) rfl rfl (Nat.le_of_ble_eq_true rfl) dX2_init_11 (fun H locs hP1 hD1 hS1 => ?_)
  clear hP hD hS
  have hP : va_P (dC, dI) vwCl [(h0, .inr (2, figL (upd (upd F 0 0) 1 0)))] H := hP1
  have hD : va_D A [(h0, .inr (2, figL (upd (upd F 0 0) 1 0)))] := hD1
  have hS := hS1
  clear hP1 hD1 hS1
  refine lv_aload_n hx hb dX2_init_14 rfl (lv_at hl 0 rfl) ?_
  refine lv_iconst (v := 0) hx hb dX2_init_15 (by decide) ?_
  refine va_put (D := (dC, dI)) (ci := 2) (v := .int 0) (ty := .int) (C := RX2) (T := TX2) (N := 16) hx hb hts inw_X2_init_X2 tyX2 tyX2_ok nmX2 hown hK hP hD hS 0 rfl rfl 2 (by decide) (hts (.fieldLink RX2 18 "DuelFrames$Figure" "meter" "I") (List.mem_of_getElem? (i := 6) rfl)) (fun _ h9 => h9) rfl (by decide +kernel) rfl rfl (Nat.le_of_ble_eq_true rfl) dX2_init_16 (fun H locs hP1 hD1 hS1 => ?_)
  clear hP hD hS
  have hP : va_P (dC, dI) vwCl [(h0, .inr (2, figL (upd (upd (upd F 0 0) 1 0) 2 0)))] H := hP1
  have hD : va_D A [(h0, .inr (2, figL (upd (upd (upd F 0 0) 1 0) 2 0)))] := hD1
  have hS := hS1
  clear hP1 hD1 hS1
  refine lv_aload_n hx hb dX2_init_19 rfl (lv_at hl 0 rfl) ?_
  refine lv_iconst (v := 0) hx hb dX2_init_20 (by decide) ?_
  refine va_put (D := (dC, dI)) (ci := 2) (v := .int 0) (ty := .int) (C := RX2) (T := TX2) (N := 16) hx hb hts inw_X2_init_X2 tyX2 tyX2_ok nmX2 hown hK hP hD hS 0 rfl rfl 3 (by decide) (hts (.fieldLink RX2 21 "DuelFrames$Figure" "does" "I") (List.mem_of_getElem? (i := 7) rfl)) (fun _ h9 => h9) rfl (by decide +kernel) rfl rfl (Nat.le_of_ble_eq_true rfl) dX2_init_21 (fun H locs hP1 hD1 hS1 => ?_)
  clear hP hD hS
  have hP : va_P (dC, dI) vwCl [(h0, .inr (2, figL (upd (upd (upd (upd F 0 0) 1 0) 2 0) 3 0)))] H := hP1
  have hD : va_D A [(h0, .inr (2, figL (upd (upd (upd (upd F 0 0) 1 0) 2 0) 3 0)))] := hD1
  have hS := hS1
  clear hP1 hD1 hS1
  refine lv_aload_n hx hb dX2_init_24 rfl (lv_at hl 0 rfl) ?_
  refine lv_iconst (v := 0) hx hb dX2_init_25 (by decide) ?_
  refine va_put (D := (dC, dI)) (ci := 2) (v := .int 0) (ty := .int) (C := RX2) (T := TX2) (N := 16) hx hb hts inw_X2_init_X2 tyX2 tyX2_ok nmX2 hown hK hP hD hS 0 rfl rfl 4 (by decide) (hts (.fieldLink RX2 24 "DuelFrames$Figure" "count" "I") (List.mem_of_getElem? (i := 8) rfl)) (fun _ h9 => h9) rfl (by decide +kernel) rfl rfl (Nat.le_of_ble_eq_true rfl) dX2_init_26 (fun H locs hP1 hD1 hS1 => ?_)
  clear hP hD hS
  have hP : va_P (dC, dI) vwCl [(h0, .inr (2, figL (upd (upd (upd (upd (upd F 0 0) 1 0) 2 0) 3 0) 4 0)))] H := hP1
  have hD : va_D A [(h0, .inr (2, figL (upd (upd (upd (upd (upd F 0 0) 1 0) 2 0) 3 0) 4 0)))] := hD1
  have hS := hS1
  clear hP1 hD1 hS1
  refine lv_aload_n hx hb dX2_init_29 rfl (lv_at hl 0 rfl) ?_
  refine lv_iconst (v := (-1)) hx hb dX2_init_30 (by decide) ?_
  refine va_put (D := (dC, dI)) (ci := 2) (v := .int (-1)) (ty := .int) (C := RX2) (T := TX2) (N := 16) hx hb hts inw_X2_init_X2 tyX2 tyX2_ok nmX2 hown hK hP hD hS 0 rfl rfl 5 (by decide) (hts (.fieldLink RX2 27 "DuelFrames$Figure" "move" "I") (List.mem_of_getElem? (i := 9) rfl)) (fun _ h9 => h9) rfl (by decide +kernel) rfl rfl (Nat.le_of_ble_eq_true rfl) dX2_init_31 (fun H locs hP1 hD1 hS1 => ?_)
  clear hP hD hS
  have hP : va_P (dC, dI) vwCl [(h0, .inr (2, figL (upd (upd (upd (upd (upd (upd F 0 0) 1 0) 2 0) 3 0) 4 0) 5 (-1))))] H := hP1
  have hD : va_D A [(h0, .inr (2, figL (upd (upd (upd (upd (upd (upd F 0 0) 1 0) 2 0) 3 0) 4 0) 5 (-1))))] := hD1
  have hS := hS1
  clear hP1 hD1 hS1
  refine lv_aload_n hx hb dX2_init_34 rfl (lv_at hl 0 rfl) ?_
  refine lv_iconst (v := 0) hx hb dX2_init_35 (by decide) ?_
  refine va_put (D := (dC, dI)) (ci := 2) (v := .int 0) (ty := .int) (C := RX2) (T := TX2) (N := 16) hx hb hts inw_X2_init_X2 tyX2 tyX2_ok nmX2 hown hK hP hD hS 0 rfl rfl 6 (by decide) (hts (.fieldLink RX2 30 "DuelFrames$Figure" "frame" "I") (List.mem_of_getElem? (i := 10) rfl)) (fun _ h9 => h9) rfl (by decide +kernel) rfl rfl (Nat.le_of_ble_eq_true rfl) dX2_init_36 (fun H locs hP1 hD1 hS1 => ?_)
  clear hP hD hS
  have hP : va_P (dC, dI) vwCl [(h0, .inr (2, figL (upd (upd (upd (upd (upd (upd (upd F 0 0) 1 0) 2 0) 3 0) 4 0) 5 (-1)) 6 0)))] H := hP1
  have hD : va_D A [(h0, .inr (2, figL (upd (upd (upd (upd (upd (upd (upd F 0 0) 1 0) 2 0) 3 0) 4 0) 5 (-1)) 6 0)))] := hD1
  have hS := hS1
  clear hP1 hD1 hS1
  refine lv_aload_n hx hb dX2_init_39 rfl (lv_at hl 0 rfl) ?_
  refine lv_iconst (v := (-1)) hx hb dX2_init_40 (by decide) ?_
  refine va_put (D := (dC, dI)) (ci := 2) (v := .int (-1)) (ty := .int) (C := RX2) (T := TX2) (N := 16) hx hb hts inw_X2_init_X2 tyX2 tyX2_ok nmX2 hown hK hP hD hS 0 rfl rfl 7 (by decide) (hts (.fieldLink RX2 33 "DuelFrames$Figure" "touchedAgo" "I") (List.mem_of_getElem? (i := 11) rfl)) (fun _ h9 => h9) rfl (by decide +kernel) rfl rfl (Nat.le_of_ble_eq_true rfl) dX2_init_41 (fun H locs hP1 hD1 hS1 => ?_)
  clear hP hD hS
  have hP : va_P (dC, dI) vwCl [(h0, .inr (2, figL (upd (upd (upd (upd (upd (upd (upd (upd F 0 0) 1 0) 2 0) 3 0) 4 0) 5 (-1)) 6 0) 7 (-1))))] H := hP1
  have hD : va_D A [(h0, .inr (2, figL (upd (upd (upd (upd (upd (upd (upd (upd F 0 0) 1 0) 2 0) 3 0) 4 0) 5 (-1)) 6 0) 7 (-1))))] := hD1
  have hS := hS1
  clear hP1 hD1 hS1
  refine lv_aload_n hx hb dX2_init_44 rfl (lv_at hl 0 rfl) ?_
  refine lv_iconst (v := 0) hx hb dX2_init_45 (by decide) ?_
  refine va_put (D := (dC, dI)) (ci := 2) (v := .int 0) (ty := .int) (C := RX2) (T := TX2) (N := 16) hx hb hts inw_X2_init_X2 tyX2 tyX2_ok nmX2 hown hK hP hD hS 0 rfl rfl 8 (by decide) (hts (.fieldLink RX2 36 "DuelFrames$Figure" "stun" "I") (List.mem_of_getElem? (i := 12) rfl)) (fun _ h9 => h9) rfl (by decide +kernel) rfl rfl (Nat.le_of_ble_eq_true rfl) dX2_init_46 (fun H locs hP1 hD1 hS1 => ?_)
  clear hP hD hS
  have hP : va_P (dC, dI) vwCl [(h0, .inr (2, figL (upd (upd (upd (upd (upd (upd (upd (upd (upd F 0 0) 1 0) 2 0) 3 0) 4 0) 5 (-1)) 6 0) 7 (-1)) 8 0)))] H := hP1
  have hD : va_D A [(h0, .inr (2, figL (upd (upd (upd (upd (upd (upd (upd (upd (upd F 0 0) 1 0) 2 0) 3 0) 4 0) 5 (-1)) 6 0) 7 (-1)) 8 0)))] := hD1
  have hS := hS1
  clear hP1 hD1 hS1
  refine lv_aload_n hx hb dX2_init_49 rfl (lv_at hl 0 rfl) ?_
  refine lv_iconst (v := (-1)) hx hb dX2_init_50 (by decide) ?_
  refine va_put (D := (dC, dI)) (ci := 2) (v := .int (-1)) (ty := .int) (C := RX2) (T := TX2) (N := 16) hx hb hts inw_X2_init_X2 tyX2 tyX2_ok nmX2 hown hK hP hD hS 0 rfl rfl 9 (by decide) (hts (.fieldLink RX2 39 "DuelFrames$Figure" "kept" "I") (List.mem_of_getElem? (i := 13) rfl)) (fun _ h9 => h9) rfl (by decide +kernel) rfl rfl (Nat.le_of_ble_eq_true rfl) dX2_init_51 (fun H locs hP1 hD1 hS1 => ?_)
  clear hP hD hS
  have hP : va_P (dC, dI) vwCl [(h0, .inr (2, figL (upd (upd (upd (upd (upd (upd (upd (upd (upd (upd F 0 0) 1 0) 2 0) 3 0) 4 0) 5 (-1)) 6 0) 7 (-1)) 8 0) 9 (-1))))] H := hP1
  have hD : va_D A [(h0, .inr (2, figL (upd (upd (upd (upd (upd (upd (upd (upd (upd (upd F 0 0) 1 0) 2 0) 3 0) 4 0) 5 (-1)) 6 0) 7 (-1)) 8 0) 9 (-1))))] := hD1
  have hS := hS1
  clear hP1 hD1 hS1
  refine lv_aload_n hx hb dX2_init_54 rfl (lv_at hl 0 rfl) ?_
  refine lv_iconst (v := 0) hx hb dX2_init_55 (by decide) ?_
  refine va_put (D := (dC, dI)) (ci := 2) (v := .int 0) (ty := .int) (C := RX2) (T := TX2) (N := 16) hx hb hts inw_X2_init_X2 tyX2 tyX2_ok nmX2 hown hK hP hD hS 0 rfl rfl 10 (by decide) (hts (.fieldLink RX2 42 "DuelFrames$Figure" "keptFor" "I") (List.mem_of_getElem? (i := 14) rfl)) (fun _ h9 => h9) rfl (by decide +kernel) rfl rfl (Nat.le_of_ble_eq_true rfl) dX2_init_56 (fun H locs hP1 hD1 hS1 => ?_)
  clear hP hD hS
  have hP : va_P (dC, dI) vwCl [(h0, .inr (2, figL (upd (upd (upd (upd (upd (upd (upd (upd (upd (upd (upd F 0 0) 1 0) 2 0) 3 0) 4 0) 5 (-1)) 6 0) 7 (-1)) 8 0) 9 (-1)) 10 0)))] H := hP1
  have hD : va_D A [(h0, .inr (2, figL (upd (upd (upd (upd (upd (upd (upd (upd (upd (upd (upd F 0 0) 1 0) 2 0) 3 0) 4 0) 5 (-1)) 6 0) 7 (-1)) 8 0) 9 (-1)) 10 0)))] := hD1
  have hS := hS1
  clear hP1 hD1 hS1
  refine lv_aload_n hx hb dX2_init_59 rfl (lv_at hl 0 rfl) ?_
  refine lv_iconst (v := 0) hx hb dX2_init_60 (by decide) ?_
  refine va_put (D := (dC, dI)) (ci := 2) (v := .int 0) (ty := .int) (C := RX2) (T := TX2) (N := 16) hx hb hts inw_X2_init_X2 tyX2 tyX2_ok nmX2 hown hK hP hD hS 0 rfl rfl 11 (by decide) (hts (.fieldLink RX2 45 "DuelFrames$Figure" "input" "I") (List.mem_of_getElem? (i := 15) rfl)) (fun _ h9 => h9) rfl (by decide +kernel) rfl rfl (Nat.le_of_ble_eq_true rfl) dX2_init_61 (fun H locs hP1 hD1 hS1 => ?_)
  clear hP hD hS
  have hP : va_P (dC, dI) vwCl [(h0, .inr (2, figL (upd (upd (upd (upd (upd (upd (upd (upd (upd (upd (upd (upd F 0 0) 1 0) 2 0) 3 0) 4 0) 5 (-1)) 6 0) 7 (-1)) 8 0) 9 (-1)) 10 0) 11 0)))] H := hP1
  have hD : va_D A [(h0, .inr (2, figL (upd (upd (upd (upd (upd (upd (upd (upd (upd (upd (upd (upd F 0 0) 1 0) 2 0) 3 0) 4 0) 5 (-1)) 6 0) 7 (-1)) 8 0) 9 (-1)) 10 0) 11 0)))] := hD1
  have hS := hS1
  clear hP1 hD1 hS1
  refine lv_aload_n hx hb dX2_init_64 rfl (lv_at hl 0 rfl) ?_
  refine lv_iconst (v := 0) hx hb dX2_init_65 (by decide) ?_
  refine va_put (D := (dC, dI)) (ci := 2) (v := .int 0) (ty := .boolean) (C := RX2) (T := TX2) (N := 16) hx hb hts inw_X2_init_X2 tyX2 tyX2_ok nmX2 hown hK hP hD hS 0 rfl rfl 12 (by decide) (hts (.fieldLink RX2 48 "DuelFrames$Figure" "begins" "Z") (List.mem_of_getElem? (i := 16) rfl)) (fun _ h9 => h9) rfl (by decide +kernel) rfl rfl (Nat.le_of_ble_eq_true rfl) dX2_init_66 (fun H locs hP1 hD1 hS1 => ?_)
  clear hP hD hS
  have hP : va_P (dC, dI) vwCl [(h0, .inr (2, figL (upd (upd (upd (upd (upd (upd (upd (upd (upd (upd (upd (upd (upd F 0 0) 1 0) 2 0) 3 0) 4 0) 5 (-1)) 6 0) 7 (-1)) 8 0) 9 (-1)) 10 0) 11 0) 12 0)))] H := hP1
  have hD : va_D A [(h0, .inr (2, figL (upd (upd (upd (upd (upd (upd (upd (upd (upd (upd (upd (upd (upd F 0 0) 1 0) 2 0) 3 0) 4 0) 5 (-1)) 6 0) 7 (-1)) 8 0) 9 (-1)) 10 0) 11 0) 12 0)))] := hD1
  have hS := hS1
  clear hP1 hD1 hS1
  refine lv_aload_n hx hb dX2_init_69 rfl (lv_at hl 0 rfl) ?_
  refine lv_iconst (v := 0) hx hb dX2_init_70 (by decide) ?_
  refine va_put (D := (dC, dI)) (ci := 2) (v := .int 0) (ty := .int) (C := RX2) (T := TX2) (N := 16) hx hb hts inw_X2_init_X2 tyX2 tyX2_ok nmX2 hown hK hP hD hS 0 rfl rfl 13 (by decide) (hts (.fieldLink RX2 52 "DuelFrames$Figure" "did" "I") (List.mem_of_getElem? (i := 17) rfl)) (fun _ h9 => h9) rfl (by decide +kernel) rfl rfl (Nat.le_of_ble_eq_true rfl) dX2_init_71 (fun H locs hP1 hD1 hS1 => ?_)
  clear hP hD hS
  have hP : va_P (dC, dI) vwCl [(h0, .inr (2, figL (upd (upd (upd (upd (upd (upd (upd (upd (upd (upd (upd (upd (upd (upd F 0 0) 1 0) 2 0) 3 0) 4 0) 5 (-1)) 6 0) 7 (-1)) 8 0) 9 (-1)) 10 0) 11 0) 12 0) 13 0)))] H := hP1
  have hD : va_D A [(h0, .inr (2, figL (upd (upd (upd (upd (upd (upd (upd (upd (upd (upd (upd (upd (upd (upd F 0 0) 1 0) 2 0) 3 0) 4 0) 5 (-1)) 6 0) 7 (-1)) 8 0) 9 (-1)) 10 0) 11 0) 12 0) 13 0)))] := hD1
  have hS := hS1
  clear hP1 hD1 hS1
  refine lv_aload_n hx hb dX2_init_74 rfl (lv_at hl 0 rfl) ?_
  refine lv_iconst (v := 0) hx hb dX2_init_75 (by decide) ?_
  refine va_put (D := (dC, dI)) (ci := 2) (v := .int 0) (ty := .int) (C := RX2) (T := TX2) (N := 16) hx hb hts inw_X2_init_X2 tyX2 tyX2_ok nmX2 hown hK hP hD hS 0 rfl rfl 14 (by decide) (hts (.fieldLink RX2 55 "DuelFrames$Figure" "counted" "I") (List.mem_of_getElem? (i := 18) rfl)) (fun _ h9 => h9) rfl (by decide +kernel) rfl rfl (Nat.le_of_ble_eq_true rfl) dX2_init_76 (fun H locs hP1 hD1 hS1 => ?_)
  clear hP hD hS
  have hP : va_P (dC, dI) vwCl [(h0, .inr (2, figL (upd (upd (upd (upd (upd (upd (upd (upd (upd (upd (upd (upd (upd (upd (upd F 0 0) 1 0) 2 0) 3 0) 4 0) 5 (-1)) 6 0) 7 (-1)) 8 0) 9 (-1)) 10 0) 11 0) 12 0) 13 0) 14 0)))] H := hP1
  have hD : va_D A [(h0, .inr (2, figL (upd (upd (upd (upd (upd (upd (upd (upd (upd (upd (upd (upd (upd (upd (upd F 0 0) 1 0) 2 0) 3 0) 4 0) 5 (-1)) 6 0) 7 (-1)) 8 0) 9 (-1)) 10 0) 11 0) 12 0) 13 0) 14 0)))] := hD1
  have hS := hS1
  clear hP1 hD1 hS1
  refine lv_aload_n hx hb dX2_init_79 rfl (lv_at hl 0 rfl) ?_
  refine lv_iload_n hx hb dX2_init_80 rfl (lv_at hl 1 rfl) ?_
  refine va_putF (D := (dC, dI)) (ci := 2) (v := .int b) (ty := .boolean) (C := RX2) (T := TX2) (N := 16) hx hb hts inw_X2_init_X2 tyX2 tyX2_ok nmX2 hown hK hP hD hS 0 rfl rfl 15 (by decide) (hts (.fieldLink RX2 58 "DuelFrames$Figure" "isLeft" "Z") (List.mem_of_getElem? (i := 19) rfl)) (fun _ h9 => h9) rfl hin rfl (by decide +kernel) (zb_n hbo) (zb_f hbo) (Nat.le_of_ble_eq_true rfl) dX2_init_81 (fun H locs hP1 hD1 hS1 => ?_)
  clear hP hD hS
  have hP : va_P (dC, dI) vwCl [(h0, .inr (2, figL (upd (upd (upd (upd (upd (upd (upd (upd (upd (upd (upd (upd (upd (upd (upd (upd F 0 0) 1 0) 2 0) 3 0) 4 0) 5 (-1)) 6 0) 7 (-1)) 8 0) 9 (-1)) 10 0) 11 0) 12 0) 13 0) 14 0) 15 b)))] H := hP1
  have hD : va_D A [(h0, .inr (2, figL (upd (upd (upd (upd (upd (upd (upd (upd (upd (upd (upd (upd (upd (upd (upd (upd F 0 0) 1 0) 2 0) 3 0) 4 0) 5 (-1)) 6 0) 7 (-1)) 8 0) 9 (-1)) 10 0) 11 0) 12 0) 13 0) 14 0) 15 b)))] := hD1
  have hS := hS1
  clear hP1 hD1 hS1
  have hP9 := hP.sub (ws' := [(h0, .inr (2, figL (upd (upd (upd (upd (upd (upd (upd (upd (upd (upd (upd (upd (upd (upd (upd (upd F 0 0) 1 0) 2 0) 3 0) 4 0) 5 (-1)) 6 0) 7 (-1)) 8 0) 9 (-1)) 10 0) 11 0) 12 0) 13 0) 14 0) 15 b)))]) [0] rfl
  have hD9 := hD.sub (ws' := [(h0, .inr (2, figL (upd (upd (upd (upd (upd (upd (upd (upd (upd (upd (upd (upd (upd (upd (upd (upd F 0 0) 1 0) 2 0) 3 0) 4 0) 5 (-1)) 6 0) 7 (-1)) 8 0) 9 (-1)) 10 0) 11 0) 12 0) 13 0) 14 0) 15 b)))]) [0] (by decide +kernel) rfl
  refine W.widen (k := 0) (n := 0) (Nat.le_of_ble_eq_true rfl) (Nat.le_of_ble_eq_true rfl) ?_
  exact W.vret hx hb hr (fun t ht hW => ⟨⟨(), rfl, trivial, wPost_of hP9 hD9 ht⟩, hS.F ht⟩) hS.2.2 dX2_init_84
theorem inw_X1_init_X2 : ∀ w ∈ u_ws RX2 TX2 16, w ∈ wsX1_init := fun _ h => List.mem_cons_of_mem _ (List.mem_append_left _ (List.mem_append_right _ h))
theorem inw_X1_init_X1 : ∀ w ∈ u_ws RX1 TX1 3, w ∈ wsX1_init := fun _ h => List.mem_cons_of_mem _ (List.mem_append_right _ h)
theorem c_X1_init (l : Launch) (dC : Nat → ClassId) (dI : Nat → Nat → Nat) (cY : Nat → ClassId) (h0 : Nat) (ql : Nat) (sz : Nat) : Met l yX1_init wsX1_init ({ frames := 2, cells := 2, slots := 32, locals := 41 } : Room) (va_Pc [.ref h0, .ref ql] (wPre (dC, dI) (tyL cY) [(h0, .inr (1, [.null, .null, .null]))] sz)) (va_Qv (fun u : Nat → Nat => True) (fun u : Nat → Nat => wPost (dC, dI) [(h0, .inr (1, [.ref ql, .ref (u 0), .ref (u 1)])), (u 0, .inr (2, figL (X2_init_w0 (fun _ => 0) 1))), (u 1, .inr (2, figL (X2_init_w0 (fun _ => 0) 0)))] (va_A [(h0, .inr (1, [.null, .null, .null]))] sz) ()) (va_A [(h0, .inr (1, [.null, .null, .null]))] sz)) 2 32 (va_A [(h0, .inr (1, [.null, .null, .null]))] sz) := by
  refine Met.ofW (cc := cX1_init) (maxL := 2) (ret := none) (by decide) rfl ?_
  intro p e s m args below meth c s₁ B hml hv
  obtain ⟨rfl, hsz, hP, hK, hN, hD0⟩ := hv
  have hx := B.exec
  have hb := B.bytes
  have hr := B.returns
  have hts := atoms_spec (ws := wsX1_init) B.pre
  have hown : s.vm.findClass RX1 = some m.cls := findClass_of_methodNamed B.named
  have hlocks := B.notSynchronized
  have hin : meth.name = "<init>" := (name_of_methodNamed B.named B.method).1
  subst hsz
  have hD := hD0.self (sz := s.heap.size)
  generalize hAe : va_A [(h0, .inr (1, [.null, .null, .null]))] s.heap.size = A at hD ⊢
  have hA : ∀ q : Nat, s.heap.size ≤ q → A q := fun q h => by rw [← hAe]; exact Or.inr h
  have hS : va_S A s.heap s.heap [] := va_S.rf
  have hP : va_P (dC, dI) vwCl [(h0, .inr (1, [.null, .null, .null]))] s.heap := hP
  have hl := lv_entry ([.ref h0, .ref ql]) (n := 2) (Nat.le_of_ble_eq_true rfl)
  rw [lg_entry_eq]
  generalize (lg_sl ([.ref h0, .ref ql]) ++ List.replicate (2 - (lg_sl ([.ref h0, .ref ql])).length) Slot.unset).toArray = ls at hl ⊢
  have hl : lv_has ls 2 [(0, .ref h0), (1, .ref ql)] := hl
  refine lv_aload_n hx hb dX1_init_0 rfl (lv_at hl 0 rfl) ?_
  refine W.objInit hx hb hown (hts (.methodLink RX1 3 objectInit) (List.mem_of_getElem? (i := 1) rfl)) (hts (.instanceMethod objectInit) (List.mem_of_getElem? (i := 2) rfl)) (hts (.code objectInit ⟨#[0xb1]⟩ 1 none) (List.mem_of_getElem? (i := 3) rfl)) rfl (by rw [hml]; exact hl.1) rfl dX1_init_1 (Nat.le_of_ble_eq_true rfl) (Nat.le_of_ble_eq_true rfl) ?_
  refine W.eq (g2 := F0 m 4 ls []) rfl ?_
  refine lv_aload_n hx hb dX1_init_4 rfl (lv_at hl 0 rfl) ?_
  refine va_new (D := (dC, dI)) (ci := 2) (fs := figL (fun _ => 0)) (C := RX2) (T := TX2) (N := 16) hx hb hts inw_X1_init_X2 tyX2 tyX2_ok hown (hts (.classLink RX1 9 RX2) (List.mem_of_getElem? (i := 4) rfl)) (hts (.instantiable RX2 16) (List.mem_of_getElem? (i := 5) rfl)) (hts (.initialized RX2) (List.mem_of_getElem? (i := 6) rfl)) hK hP hD hS hA rfl (fun j hj => by rcases (show j = 0 ∨ j = 1 ∨ j = 2 ∨ j = 3 ∨ j = 4 ∨ j = 5 ∨ j = 6 ∨ j = 7 ∨ j = 8 ∨ j = 9 ∨ j = 10 ∨ j = 11 ∨ j = 12 ∨ j = 13 ∨ j = 14 ∨ j = 15 by omega) with rfl | rfl | rfl | rfl | rfl | rfl | rfl | rfl | rfl | rfl | rfl | rfl | rfl | rfl | rfl | rfl <;> rfl) (Nat.le_of_ble_eq_true rfl) (Nat.le_of_ble_eq_true rfl) dX1_init_5 (fun q5_4 H hP1 hD1 hS1 => ?_)
  clear hP hD hS
  have hP : va_P (dC, dI) vwCl [(h0, .inr (1, [.null, .null, .null])), (q5_4, .inr (2, figL (fun _ => 0)))] H := hP1
  have hD : va_D A [(h0, .inr (1, [.null, .null, .null])), (q5_4, .inr (2, figL (fun _ => 0)))] := hD1
  have hS := hS1
  clear hP1 hD1 hS1
  refine W.widen (k := 1) (n := 16) (Nat.le_of_ble_eq_true rfl) (Nat.le_of_ble_eq_true rfl) ?_
  refine lv_dup hx hb dX1_init_8 rfl ?_
  refine lv_iconst (v := 1) hx hb dX1_init_9 (by decide) ?_
  have hPc := hP.sub (ws' := [(q5_4, .inr (2, figL (fun _ => 0)))]) [1] rfl
  have hDc := hD.sub (ws' := [(q5_4, .inr (2, figL (fun _ => 0)))]) [1] (by decide) rfl
  have hFc := va_free (wc := [(q5_4, .inr (2, figL (fun _ => 0)))]) hD hS hA [1] rfl
  refine va_callv (va_runI (As := [.int 1]) (rest := [.ref q5_4, .ref h0]) ⟨hx, hb, hml, hown, hts⟩ (c_X2_init l dC dI cY q5_4 (fun _ => 0) 1 (Or.inr rfl) H.size) (cwI 1 hts gX1_init_X2_init rfl rfl rfl (hts (.initialized RX2) (List.mem_of_getElem? (i := 6) rfl)) (hts (.methodLink RX1 11 yX2_init) (List.mem_of_getElem? (i := 10) rfl)) (hts (.instanceMethod yX2_init) (List.mem_of_getElem? (i := 11) rfl)) rfl (by decide +kernel) ⟨(Nat.le_of_ble_eq_true rfl), (Nat.le_of_ble_eq_true rfl)⟩) ⟨blindW, fun U hU hW => ⟨rfl, wPre_of hPc hK hN hDc U hU hW⟩⟩ rfl rfl hl.1 rfl (lv_room (Nat.le_of_ble_eq_true rfl)) dX1_init_10 ⟨(Nat.le_of_ble_eq_true rfl), (Nat.le_of_ble_eq_true rfl)⟩) hS (fun q _ h => hFc q h) hFc (fun u10_7 t H1 locs ht hvm hw hB hz1 hk1 hS1 => ?_)
  have hJ := wJoin (wr := [(h0, .inr (1, [.null, .null, .null]))]) (w1 := [(q5_4, .inr (2, figL (X2_init_w0 (fun _ => 0) 1)))]) (wn := [(h0, .inr (1, [.null, .null, .null])), (q5_4, .inr (2, figL (X2_init_w0 (fun _ => 0) 1)))]) hP hD [1] [0] rfl rfl (by decide +kernel) (by decide +kernel) hk1 hFc hB ht [0, 1] rfl (by decide +kernel)
  clear hB hk1 hFc hPc hDc hP hD hS hz1 hvm ht t
  obtain ⟨hP1, hD1⟩ := hJ
  generalize H1 = H at hP1 hS1 ⊢
  have hP : va_P (dC, dI) vwCl [(h0, .inr (1, [.null, .null, .null])), (q5_4, .inr (2, figL (X2_init_w0 (fun _ => 0) 1)))] H := hP1
  have hD : va_D A [(h0, .inr (1, [.null, .null, .null])), (q5_4, .inr (2, figL (X2_init_w0 (fun _ => 0) 1)))] := hD1
  have hS := hS1
  clear hP1 hD1 hS1
  refine W.widen (k := 1) (n := 16) (Nat.le_of_ble_eq_true rfl) (Nat.le_of_ble_eq_true rfl) ?_
  refine va_putF (D := (dC, dI)) (ci := 1) (v := .ref q5_4) (ty := (.object "DuelFrames$Figure")) (C := RX1) (T := TX1) (N := 3) hx hb hts inw_X1_init_X1 tyX1 tyX1_ok nmX1 hown hK hP hD hS 0 rfl rfl 1 (by decide) (hts (.fieldLink RX1 14 "DuelFrames$Duel" "left" "LDuelFrames$Figure;") (List.mem_of_getElem? (i := 7) rfl)) (fun _ h9 => h9) rfl hin rfl (by decide +kernel) rfl rfl (Nat.le_of_ble_eq_true rfl) dX1_init_13 (fun H locs hP1 hD1 hS1 => ?_)
  clear hP hD hS
  have hP : va_P (dC, dI) vwCl [(h0, .inr (1, [.null, .ref q5_4, .null])), (q5_4, .inr (2, figL (X2_init_w0 (fun _ => 0) 1)))] H := hP1
  have hD : va_D A [(h0, .inr (1, [.null, .ref q5_4, .null])), (q5_4, .inr (2, figL (X2_init_w0 (fun _ => 0) 1)))] := hD1
  have hS := hS1
  clear hP1 hD1 hS1
  refine lv_aload_n hx hb dX1_init_16 rfl (lv_at hl 0 rfl) ?_
  refine va_new (D := (dC, dI)) (ci := 2) (fs := figL (fun _ => 0)) (C := RX2) (T := TX2) (N := 16) hx hb hts inw_X1_init_X2 tyX2 tyX2_ok hown (hts (.classLink RX1 9 RX2) (List.mem_of_getElem? (i := 4) rfl)) (hts (.instantiable RX2 16) (List.mem_of_getElem? (i := 5) rfl)) (hts (.initialized RX2) (List.mem_of_getElem? (i := 6) rfl)) hK hP hD hS hA rfl (fun j hj => by rcases (show j = 0 ∨ j = 1 ∨ j = 2 ∨ j = 3 ∨ j = 4 ∨ j = 5 ∨ j = 6 ∨ j = 7 ∨ j = 8 ∨ j = 9 ∨ j = 10 ∨ j = 11 ∨ j = 12 ∨ j = 13 ∨ j = 14 ∨ j = 15 by omega) with rfl | rfl | rfl | rfl | rfl | rfl | rfl | rfl | rfl | rfl | rfl | rfl | rfl | rfl | rfl | rfl <;> rfl) (Nat.le_of_ble_eq_true rfl) (Nat.le_of_ble_eq_true rfl) dX1_init_17 (fun q17_10 H hP1 hD1 hS1 => ?_)
  clear hP hD hS
  have hP : va_P (dC, dI) vwCl [(h0, .inr (1, [.null, .ref q5_4, .null])), (q5_4, .inr (2, figL (X2_init_w0 (fun _ => 0) 1))), (q17_10, .inr (2, figL (fun _ => 0)))] H := hP1
  have hD : va_D A [(h0, .inr (1, [.null, .ref q5_4, .null])), (q5_4, .inr (2, figL (X2_init_w0 (fun _ => 0) 1))), (q17_10, .inr (2, figL (fun _ => 0)))] := hD1
  have hS := hS1
  clear hP1 hD1 hS1
  refine W.widen (k := 2) (n := 32) (Nat.le_of_ble_eq_true rfl) (Nat.le_of_ble_eq_true rfl) ?_
  refine lv_dup hx hb dX1_init_20 rfl ?_
  refine lv_iconst (v := 0) hx hb dX1_init_21 (by decide) ?_
  have hPc := hP.sub (ws' := [(q17_10, .inr (2, figL (fun _ => 0)))]) [2] rfl
  have hDc := hD.sub (ws' := [(q17_10, .inr (2, figL (fun _ => 0)))]) [2] (by decide) rfl
  have hFc := va_free (wc := [(q17_10, .inr (2, figL (fun _ => 0)))]) hD hS hA [2] rfl
  refine va_callv (va_runI (As := [.int 0]) (rest := [.ref q17_10, .ref h0]) ⟨hx, hb, hml, hown, hts⟩ (c_X2_init l dC dI cY q17_10 (fun _ => 0) 0 (Or.inl rfl) H.size) (cwI 1 hts gX1_init_X2_init rfl rfl rfl (hts (.initialized RX2) (List.mem_of_getElem? (i := 6) rfl)) (hts (.methodLink RX1 11 yX2_init) (List.mem_of_getElem? (i := 10) rfl)) (hts (.instanceMethod yX2_init) (List.mem_of_getElem? (i := 11) rfl)) rfl (by decide +kernel) ⟨(Nat.le_of_ble_eq_true rfl), (Nat.le_of_ble_eq_true rfl)⟩) ⟨blindW, fun U hU hW => ⟨rfl, wPre_of hPc hK hN hDc U hU hW⟩⟩ rfl rfl hl.1 rfl (lv_room (Nat.le_of_ble_eq_true rfl)) dX1_init_22 ⟨(Nat.le_of_ble_eq_true rfl), (Nat.le_of_ble_eq_true rfl)⟩) hS (fun q _ h => hFc q h) hFc (fun u22_13 t H1 locs ht hvm hw hB hz1 hk1 hS1 => ?_)
  have hJ := wJoin (wr := [(h0, .inr (1, [.null, .ref q5_4, .null])), (q5_4, .inr (2, figL (X2_init_w0 (fun _ => 0) 1)))]) (w1 := [(q17_10, .inr (2, figL (X2_init_w0 (fun _ => 0) 0)))]) (wn := [(h0, .inr (1, [.null, .ref q5_4, .null])), (q5_4, .inr (2, figL (X2_init_w0 (fun _ => 0) 1))), (q17_10, .inr (2, figL (X2_init_w0 (fun _ => 0) 0)))]) hP hD [2] [0, 1] rfl rfl (by decide +kernel) (by decide +kernel) hk1 hFc hB ht [0, 1, 2] rfl (by decide +kernel)
  clear hB hk1 hFc hPc hDc hP hD hS hz1 hvm ht t
  obtain ⟨hP1, hD1⟩ := hJ
  generalize H1 = H at hP1 hS1 ⊢
  have hP : va_P (dC, dI) vwCl [(h0, .inr (1, [.null, .ref q5_4, .null])), (q5_4, .inr (2, figL (X2_init_w0 (fun _ => 0) 1))), (q17_10, .inr (2, figL (X2_init_w0 (fun _ => 0) 0)))] H := hP1
  have hD : va_D A [(h0, .inr (1, [.null, .ref q5_4, .null])), (q5_4, .inr (2, figL (X2_init_w0 (fun _ => 0) 1))), (q17_10, .inr (2, figL (X2_init_w0 (fun _ => 0) 0)))] := hD1
  have hS := hS1
  clear hP1 hD1 hS1
  refine W.widen (k := 2) (n := 32) (Nat.le_of_ble_eq_true rfl) (Nat.le_of_ble_eq_true rfl) ?_
  refine va_putF (D := (dC, dI)) (ci := 1) (v := .ref q17_10) (ty := (.object "DuelFrames$Figure")) (C := RX1) (T := TX1) (N := 3) hx hb hts inw_X1_init_X1 tyX1 tyX1_ok nmX1 hown hK hP hD hS 0 rfl rfl 2 (by decide) (hts (.fieldLink RX1 20 "DuelFrames$Duel" "right" "LDuelFrames$Figure;") (List.mem_of_getElem? (i := 8) rfl)) (fun _ h9 => h9) rfl hin rfl (by decide +kernel) rfl rfl (Nat.le_of_ble_eq_true rfl) dX1_init_25 (fun H locs hP1 hD1 hS1 => ?_)
  clear hP hD hS
  have hP : va_P (dC, dI) vwCl [(h0, .inr (1, [.null, .ref q5_4, .ref q17_10])), (q5_4, .inr (2, figL (X2_init_w0 (fun _ => 0) 1))), (q17_10, .inr (2, figL (X2_init_w0 (fun _ => 0) 0)))] H := hP1
  have hD : va_D A [(h0, .inr (1, [.null, .ref q5_4, .ref q17_10])), (q5_4, .inr (2, figL (X2_init_w0 (fun _ => 0) 1))), (q17_10, .inr (2, figL (X2_init_w0 (fun _ => 0) 0)))] := hD1
  have hS := hS1
  clear hP1 hD1 hS1
  refine lv_aload_n hx hb dX1_init_28 rfl (lv_at hl 0 rfl) ?_
  refine lv_aload_n hx hb dX1_init_29 rfl (lv_at hl 1 rfl) ?_
  refine va_putF (D := (dC, dI)) (ci := 1) (v := .ref ql) (ty := (.object "DuelFrames$MoveList")) (C := RX1) (T := TX1) (N := 3) hx hb hts inw_X1_init_X1 tyX1 tyX1_ok nmX1 hown hK hP hD hS 0 rfl rfl 0 (by decide) (hts (.fieldLink RX1 23 "DuelFrames$Duel" "moves" "LDuelFrames$MoveList;") (List.mem_of_getElem? (i := 9) rfl)) (fun _ h9 => h9) rfl hin rfl (by decide +kernel) rfl rfl (Nat.le_of_ble_eq_true rfl) dX1_init_30 (fun H locs hP1 hD1 hS1 => ?_)
  clear hP hD hS
  have hP : va_P (dC, dI) vwCl [(h0, .inr (1, [.ref ql, .ref q5_4, .ref q17_10])), (q5_4, .inr (2, figL (X2_init_w0 (fun _ => 0) 1))), (q17_10, .inr (2, figL (X2_init_w0 (fun _ => 0) 0)))] H := hP1
  have hD : va_D A [(h0, .inr (1, [.ref ql, .ref q5_4, .ref q17_10])), (q5_4, .inr (2, figL (X2_init_w0 (fun _ => 0) 1))), (q17_10, .inr (2, figL (X2_init_w0 (fun _ => 0) 0)))] := hD1
  have hS := hS1
  clear hP1 hD1 hS1
  have hP9 := hP.sub (ws' := [(h0, .inr (1, [.ref ql, .ref q5_4, .ref q17_10])), (q5_4, .inr (2, figL (X2_init_w0 (fun _ => 0) 1))), (q17_10, .inr (2, figL (X2_init_w0 (fun _ => 0) 0)))]) [0, 1, 2] rfl
  have hD9 := hD.sub (ws' := [(h0, .inr (1, [.ref ql, .ref q5_4, .ref q17_10])), (q5_4, .inr (2, figL (X2_init_w0 (fun _ => 0) 1))), (q17_10, .inr (2, figL (X2_init_w0 (fun _ => 0) 0)))]) [0, 1, 2] (by decide +kernel) rfl
  refine W.widen (k := 2) (n := 32) (Nat.le_of_ble_eq_true rfl) (Nat.le_of_ble_eq_true rfl) ?_
  exact W.vret hx hb hr (fun t ht hW => ⟨⟨(fun k => [q5_4, q17_10].getD k 0), rfl, trivial, wPost_of hP9 hD9 ht⟩, hS.F ht⟩) hS.2.2 dX1_init_33
theorem inw_X4_init_X4 : ∀ w ∈ u_ws RX4 TX4 8, w ∈ wsX4_init := fun _ h => List.mem_cons_of_mem _ (List.mem_append_right _ h)
theorem c_X4_init (l : Launch) (dC : Nat → ClassId) (dI : Nat → Nat → Nat) (cY : Nat → ClassId) (h0 : Nat) (sz : Nat) : Met l yX4_init wsX4_init ({ frames := 1, cells := 2, slots := 11, locals := 20 } : Room) (va_Pc [.ref h0] (wPre (dC, dI) (tyL cY) [(h0, .inr (4, [.int 0, .int 0, .int 0, .int 0, .int 0, .int 0, .null, .null]))] sz)) (va_Qv (fun u : Nat → Nat => True) (fun u : Nat → Nat => wPost (dC, dI) [(h0, .inr (4, [.int 0, .int 0, .int 0, .int 0, .int 0, .int 0, .ref (u 0), .ref (u 1)])), (u 0, .inl (cY 0, 5, .inl (fun _ => 0))), (u 1, .inl (cY 1, 6, .inl (fun _ => 0)))] (va_A [(h0, .inr (4, [.int 0, .int 0, .int 0, .int 0, .int 0, .int 0, .null, .null]))] sz) ()) (va_A [(h0, .inr (4, [.int 0, .int 0, .int 0, .int 0, .int 0, .int 0, .null, .null]))] sz)) 2 11 (va_A [(h0, .inr (4, [.int 0, .int 0, .int 0, .int 0, .int 0, .int 0, .null, .null]))] sz) := by
  refine Met.ofW (cc := cX4_init) (maxL := 1) (ret := none) (by decide) rfl ?_
  intro p e s m args below meth c s₁ B hml hv
  obtain ⟨rfl, hsz, hP, hK, hN, hD0⟩ := hv
  have hx := B.exec
  have hb := B.bytes
  have hr := B.returns
  have hts := atoms_spec (ws := wsX4_init) B.pre
  have hown : s.vm.findClass RX4 = some m.cls := findClass_of_methodNamed B.named
  have hlocks := B.notSynchronized
  have hin : meth.name = "<init>" := (name_of_methodNamed B.named B.method).1
  subst hsz
  have hD := hD0.self (sz := s.heap.size)
  generalize hAe : va_A [(h0, .inr (4, [.int 0, .int 0, .int 0, .int 0, .int 0, .int 0, .null, .null]))] s.heap.size = A at hD ⊢
  have hA : ∀ q : Nat, s.heap.size ≤ q → A q := fun q h => by rw [← hAe]; exact Or.inr h
  have hS : va_S A s.heap s.heap [] := va_S.rf
  have hP : va_P (dC, dI) vwCl [(h0, .inr (4, [.int 0, .int 0, .int 0, .int 0, .int 0, .int 0, .null, .null]))] s.heap := hP
  have hl := lv_entry ([.ref h0]) (n := 1) (Nat.le_of_ble_eq_true rfl)
  rw [lg_entry_eq]
  generalize (lg_sl ([.ref h0]) ++ List.replicate (1 - (lg_sl ([.ref h0])).length) Slot.unset).toArray = ls at hl ⊢
  have hl : lv_has ls 1 [(0, .ref h0)] := hl
  refine lv_aload_n hx hb dX4_init_0 rfl (lv_at hl 0 rfl) ?_
  refine W.objInit hx hb hown (hts (.methodLink RX4 3 objectInit) (List.mem_of_getElem? (i := 1) rfl)) (hts (.instanceMethod objectInit) (List.mem_of_getElem? (i := 2) rfl)) (hts (.code objectInit ⟨#[0xb1]⟩ 1 none) (List.mem_of_getElem? (i := 3) rfl)) rfl (by rw [hml]; exact hl.1) rfl dX4_init_1 (Nat.le_of_ble_eq_true rfl) (Nat.le_of_ble_eq_true rfl) ?_
  refine W.eq (g2 := F0 m 4 ls []) rfl ?_
  refine lv_aload_n hx hb dX4_init_4 rfl (lv_at hl 0 rfl) ?_
  refine lv_iconst (v := 0) hx hb dX4_init_5 (by decide) ?_
  refine va_put (D := (dC, dI)) (ci := 4) (v := .int 0) (ty := .int) (C := RX4) (T := TX4) (N := 8) hx hb hts inw_X4_init_X4 tyX4 tyX4_ok nmX4 hown hK hP hD hS 0 rfl rfl 0 (by decide) (hts (.fieldLink RX4 9 "DuelFrames$Move" "startup" "I") (List.mem_of_getElem? (i := 4) rfl)) (fun _ h9 => h9) rfl (by decide +kernel) rfl rfl (Nat.le_of_ble_eq_true rfl) dX4_init_6 (fun H locs hP1 hD1 hS1 => ?_)
  clear hP hD hS
  have hP : va_P (dC, dI) vwCl [(h0, .inr (4, [.int 0, .int 0, .int 0, .int 0, .int 0, .int 0, .null, .null]))] H := hP1
  have hD : va_D A [(h0, .inr (4, [.int 0, .int 0, .int 0, .int 0, .int 0, .int 0, .null, .null]))] := hD1
  have hS := hS1
  clear hP1 hD1 hS1
  refine lv_aload_n hx hb dX4_init_9 rfl (lv_at hl 0 rfl) ?_
  refine lv_iconst (v := 0) hx hb dX4_init_10 (by decide) ?_
  refine va_put (D := (dC, dI)) (ci := 4) (v := .int 0) (ty := .int) (C := RX4) (T := TX4) (N := 8) hx hb hts inw_X4_init_X4 tyX4 tyX4_ok nmX4 hown hK hP hD hS 0 rfl rfl 1 (by decide) (hts (.fieldLink RX4 15 "DuelFrames$Move" "active" "I") (List.mem_of_getElem? (i := 5) rfl)) (fun _ h9 => h9) rfl (by decide +kernel) rfl rfl (Nat.le_of_ble_eq_true rfl) dX4_init_11 (fun H locs hP1 hD1 hS1 => ?_)
  clear hP hD hS
  have hP : va_P (dC, dI) vwCl [(h0, .inr (4, [.int 0, .int 0, .int 0, .int 0, .int 0, .int 0, .null, .null]))] H := hP1
  have hD : va_D A [(h0, .inr (4, [.int 0, .int 0, .int 0, .int 0, .int 0, .int 0, .null, .null]))] := hD1
  have hS := hS1
  clear hP1 hD1 hS1
  refine lv_aload_n hx hb dX4_init_14 rfl (lv_at hl 0 rfl) ?_
  refine lv_iconst (v := 0) hx hb dX4_init_15 (by decide) ?_
  refine va_put (D := (dC, dI)) (ci := 4) (v := .int 0) (ty := .int) (C := RX4) (T := TX4) (N := 8) hx hb hts inw_X4_init_X4 tyX4 tyX4_ok nmX4 hown hK hP hD hS 0 rfl rfl 2 (by decide) (hts (.fieldLink RX4 18 "DuelFrames$Move" "recovery" "I") (List.mem_of_getElem? (i := 6) rfl)) (fun _ h9 => h9) rfl (by decide +kernel) rfl rfl (Nat.le_of_ble_eq_true rfl) dX4_init_16 (fun H locs hP1 hD1 hS1 => ?_)
  clear hP hD hS
  have hP : va_P (dC, dI) vwCl [(h0, .inr (4, [.int 0, .int 0, .int 0, .int 0, .int 0, .int 0, .null, .null]))] H := hP1
  have hD : va_D A [(h0, .inr (4, [.int 0, .int 0, .int 0, .int 0, .int 0, .int 0, .null, .null]))] := hD1
  have hS := hS1
  clear hP1 hD1 hS1
  refine lv_aload_n hx hb dX4_init_19 rfl (lv_at hl 0 rfl) ?_
  refine lv_iconst (v := 0) hx hb dX4_init_20 (by decide) ?_
  refine va_put (D := (dC, dI)) (ci := 4) (v := .int 0) (ty := .int) (C := RX4) (T := TX4) (N := 8) hx hb hts inw_X4_init_X4 tyX4 tyX4_ok nmX4 hown hK hP hD hS 0 rfl rfl 3 (by decide) (hts (.fieldLink RX4 21 "DuelFrames$Move" "reach" "I") (List.mem_of_getElem? (i := 7) rfl)) (fun _ h9 => h9) rfl (by decide +kernel) rfl rfl (Nat.le_of_ble_eq_true rfl) dX4_init_21 (fun H locs hP1 hD1 hS1 => ?_)
  clear hP hD hS
  have hP : va_P (dC, dI) vwCl [(h0, .inr (4, [.int 0, .int 0, .int 0, .int 0, .int 0, .int 0, .null, .null]))] H := hP1
  have hD : va_D A [(h0, .inr (4, [.int 0, .int 0, .int 0, .int 0, .int 0, .int 0, .null, .null]))] := hD1
  have hS := hS1
  clear hP1 hD1 hS1
  refine lv_aload_n hx hb dX4_init_24 rfl (lv_at hl 0 rfl) ?_
  refine lv_iconst (v := 0) hx hb dX4_init_25 (by decide) ?_
  refine va_put (D := (dC, dI)) (ci := 4) (v := .int 0) (ty := .int) (C := RX4) (T := TX4) (N := 8) hx hb hts inw_X4_init_X4 tyX4 tyX4_ok nmX4 hown hK hP hD hS 0 rfl rfl 4 (by decide) (hts (.fieldLink RX4 24 "DuelFrames$Move" "kind" "I") (List.mem_of_getElem? (i := 8) rfl)) (fun _ h9 => h9) rfl (by decide +kernel) rfl rfl (Nat.le_of_ble_eq_true rfl) dX4_init_26 (fun H locs hP1 hD1 hS1 => ?_)
  clear hP hD hS
  have hP : va_P (dC, dI) vwCl [(h0, .inr (4, [.int 0, .int 0, .int 0, .int 0, .int 0, .int 0, .null, .null]))] H := hP1
  have hD : va_D A [(h0, .inr (4, [.int 0, .int 0, .int 0, .int 0, .int 0, .int 0, .null, .null]))] := hD1
  have hS := hS1
  clear hP1 hD1 hS1
  refine lv_aload_n hx hb dX4_init_29 rfl (lv_at hl 0 rfl) ?_
  refine lv_iconst (v := 0) hx hb dX4_init_30 (by decide) ?_
  refine va_put (D := (dC, dI)) (ci := 4) (v := .int 0) (ty := .int) (C := RX4) (T := TX4) (N := 8) hx hb hts inw_X4_init_X4 tyX4 tyX4_ok nmX4 hown hK hP hD hS 0 rfl rfl 5 (by decide) (hts (.fieldLink RX4 27 "DuelFrames$Move" "damage" "I") (List.mem_of_getElem? (i := 9) rfl)) (fun _ h9 => h9) rfl (by decide +kernel) rfl rfl (Nat.le_of_ble_eq_true rfl) dX4_init_31 (fun H locs hP1 hD1 hS1 => ?_)
  clear hP hD hS
  have hP : va_P (dC, dI) vwCl [(h0, .inr (4, [.int 0, .int 0, .int 0, .int 0, .int 0, .int 0, .null, .null]))] H := hP1
  have hD : va_D A [(h0, .inr (4, [.int 0, .int 0, .int 0, .int 0, .int 0, .int 0, .null, .null]))] := hD1
  have hS := hS1
  clear hP1 hD1 hS1
  refine lv_aload_n hx hb dX4_init_34 rfl (lv_at hl 0 rfl) ?_
  refine lv_iconst (v := 5) hx hb dX4_init_35 (by decide) ?_
  refine va_newa (D := (dC, dI)) (atype := .int) (ty := .int) (a0 := (5, .inl (fun _ => 0))) (N' := 5) hx hb (hts (.arrayClass .int) (List.mem_of_getElem? (i := 10) rfl)) rfl hK hP hD hS hA (fun _ => rfl) (by decide) (by decide +kernel) (Nat.le_of_ble_eq_true rfl) (Nat.le_of_ble_eq_true rfl) (Nat.le_of_ble_eq_true rfl) dX4_init_36 (fun q36_23 cA H hK1 hP1 hD1 hS1 => ?_)
  obtain rfl : cA = cY 0 := ra_i (hK1.2 5 (cA, .int) rfl).2 (hK1.2 0 (cY 0, .int) rfl).2
  clear hK1
  clear hP hD hS
  have hP : va_P (dC, dI) vwCl [(h0, .inr (4, [.int 0, .int 0, .int 0, .int 0, .int 0, .int 0, .null, .null])), (q36_23, .inl (cY 0, 5, .inl (fun _ => 0)))] H := hP1
  have hD : va_D A [(h0, .inr (4, [.int 0, .int 0, .int 0, .int 0, .int 0, .int 0, .null, .null])), (q36_23, .inl (cY 0, 5, .inl (fun _ => 0)))] := hD1
  have hS := hS1
  clear hP1 hD1 hS1
  refine W.widen (k := 1) (n := 5) (Nat.le_of_ble_eq_true rfl) (Nat.le_of_ble_eq_true rfl) ?_
  refine va_putF (D := (dC, dI)) (ci := 4) (v := .ref q36_23) (ty := (.array .int)) (C := RX4) (T := TX4) (N := 8) hx hb hts inw_X4_init_X4 tyX4 tyX4_ok nmX4 hown hK hP hD hS 0 rfl rfl 6 (by decide) (hts (.fieldLink RX4 30 "DuelFrames$Move" "traits" "[I") (List.mem_of_getElem? (i := 11) rfl)) (fun _ h9 => h9) rfl hin rfl (by decide +kernel) rfl rfl (Nat.le_of_ble_eq_true rfl) dX4_init_38 (fun H locs hP1 hD1 hS1 => ?_)
  clear hP hD hS
  have hP : va_P (dC, dI) vwCl [(h0, .inr (4, [.int 0, .int 0, .int 0, .int 0, .int 0, .int 0, .ref q36_23, .null])), (q36_23, .inl (cY 0, 5, .inl (fun _ => 0)))] H := hP1
  have hD : va_D A [(h0, .inr (4, [.int 0, .int 0, .int 0, .int 0, .int 0, .int 0, .ref q36_23, .null])), (q36_23, .inl (cY 0, 5, .inl (fun _ => 0)))] := hD1
  have hS := hS1
  clear hP1 hD1 hS1
  refine lv_aload_n hx hb dX4_init_41 rfl (lv_at hl 0 rfl) ?_
  refine lv_bipush (v := 6) hx hb dX4_init_42 (by decide) ?_
  refine va_newa (D := (dC, dI)) (atype := .boolean) (ty := .boolean) (a0 := (6, .inl (fun _ => 0))) (N' := 6) hx hb (hts (.arrayClass .boolean) (List.mem_of_getElem? (i := 12) rfl)) rfl hK hP hD hS hA (fun _ => rfl) (by decide) (by decide +kernel) (Nat.le_of_ble_eq_true rfl) (Nat.le_of_ble_eq_true rfl) (Nat.le_of_ble_eq_true rfl) dX4_init_44 (fun q44_27 cA H hK1 hP1 hD1 hS1 => ?_)
  obtain rfl : cA = cY 1 := ra_z (hK1.2 5 (cA, .boolean) rfl).2 (hK1.2 1 (cY 1, .boolean) rfl).2
  clear hK1
  clear hP hD hS
  have hP : va_P (dC, dI) vwCl [(h0, .inr (4, [.int 0, .int 0, .int 0, .int 0, .int 0, .int 0, .ref q36_23, .null])), (q36_23, .inl (cY 0, 5, .inl (fun _ => 0))), (q44_27, .inl (cY 1, 6, .inl (fun _ => 0)))] H := hP1
  have hD : va_D A [(h0, .inr (4, [.int 0, .int 0, .int 0, .int 0, .int 0, .int 0, .ref q36_23, .null])), (q36_23, .inl (cY 0, 5, .inl (fun _ => 0))), (q44_27, .inl (cY 1, 6, .inl (fun _ => 0)))] := hD1
  have hS := hS1
  clear hP1 hD1 hS1
  refine W.widen (k := 2) (n := 11) (Nat.le_of_ble_eq_true rfl) (Nat.le_of_ble_eq_true rfl) ?_
  refine va_putF (D := (dC, dI)) (ci := 4) (v := .ref q44_27) (ty := (.array .boolean)) (C := RX4) (T := TX4) (N := 8) hx hb hts inw_X4_init_X4 tyX4 tyX4_ok nmX4 hown hK hP hD hS 0 rfl rfl 7 (by decide) (hts (.fieldLink RX4 34 "DuelFrames$Move" "into" "[Z") (List.mem_of_getElem? (i := 13) rfl)) (fun _ h9 => h9) rfl hin rfl (by decide +kernel) rfl rfl (Nat.le_of_ble_eq_true rfl) dX4_init_46 (fun H locs hP1 hD1 hS1 => ?_)
  clear hP hD hS
  have hP : va_P (dC, dI) vwCl [(h0, .inr (4, [.int 0, .int 0, .int 0, .int 0, .int 0, .int 0, .ref q36_23, .ref q44_27])), (q36_23, .inl (cY 0, 5, .inl (fun _ => 0))), (q44_27, .inl (cY 1, 6, .inl (fun _ => 0)))] H := hP1
  have hD : va_D A [(h0, .inr (4, [.int 0, .int 0, .int 0, .int 0, .int 0, .int 0, .ref q36_23, .ref q44_27])), (q36_23, .inl (cY 0, 5, .inl (fun _ => 0))), (q44_27, .inl (cY 1, 6, .inl (fun _ => 0)))] := hD1
  have hS := hS1
  clear hP1 hD1 hS1
  have hP9 := hP.sub (ws' := [(h0, .inr (4, [.int 0, .int 0, .int 0, .int 0, .int 0, .int 0, .ref q36_23, .ref q44_27])), (q36_23, .inl (cY 0, 5, .inl (fun _ => 0))), (q44_27, .inl (cY 1, 6, .inl (fun _ => 0)))]) [0, 1, 2] rfl
  have hD9 := hD.sub (ws' := [(h0, .inr (4, [.int 0, .int 0, .int 0, .int 0, .int 0, .int 0, .ref q36_23, .ref q44_27])), (q36_23, .inl (cY 0, 5, .inl (fun _ => 0))), (q44_27, .inl (cY 1, 6, .inl (fun _ => 0)))]) [0, 1, 2] (by decide +kernel) rfl
  refine W.widen (k := 2) (n := 11) (Nat.le_of_ble_eq_true rfl) (Nat.le_of_ble_eq_true rfl) ?_
  exact W.vret hx hb hr (fun t ht hW => ⟨⟨(fun k => [q36_23, q44_27].getD k 0), rfl, trivial, wPost_of hP9 hD9 ht⟩, hS.F ht⟩) hS.2.2 dX4_init_49
theorem inw_X6_init_X6 : ∀ w ∈ u_ws RX6 TX6 6, w ∈ wsX6_init := fun _ h => List.mem_cons_of_mem _ (List.mem_append_right _ h)
theorem c_X6_init (l : Launch) (dC : Nat → ClassId) (dI : Nat → Nat → Nat) (cY : Nat → ClassId) (h0 : Nat) (sz : Nat) : Met l yX6_init wsX6_init ({ frames := 1, cells := 2, slots := 1200, locals := 20 } : Room) (va_Pc [.ref h0] (wPre (dC, dI) (tyL cY) [(h0, .inr (6, [.int 0, .int 0, .int 0, .int 0, .null, .null]))] sz)) (va_Qv (fun u : Nat → Nat => True) (fun u : Nat → Nat => wPost (dC, dI) [(h0, .inr (6, [.int 0, .int 0, .int 0, .int 0, .ref (u 0), .ref (u 1)])), (u 0, .inl (cY 0, 600, .inl (fun _ => 0))), (u 1, .inl (cY 0, 600, .inl (fun _ => 0)))] (va_A [(h0, .inr (6, [.int 0, .int 0, .int 0, .int 0, .null, .null]))] sz) ()) (va_A [(h0, .inr (6, [.int 0, .int 0, .int 0, .int 0, .null, .null]))] sz)) 2 1200 (va_A [(h0, .inr (6, [.int 0, .int 0, .int 0, .int 0, .null, .null]))] sz) := by
  refine Met.ofW (cc := cX6_init) (maxL := 1) (ret := none) (by decide) rfl ?_
  intro p e s m args below meth c s₁ B hml hv
  obtain ⟨rfl, hsz, hP, hK, hN, hD0⟩ := hv
  have hx := B.exec
  have hb := B.bytes
  have hr := B.returns
  have hts := atoms_spec (ws := wsX6_init) B.pre
  have hown : s.vm.findClass RX6 = some m.cls := findClass_of_methodNamed B.named
  have hlocks := B.notSynchronized
  have hin : meth.name = "<init>" := (name_of_methodNamed B.named B.method).1
  subst hsz
  have hD := hD0.self (sz := s.heap.size)
  generalize hAe : va_A [(h0, .inr (6, [.int 0, .int 0, .int 0, .int 0, .null, .null]))] s.heap.size = A at hD ⊢
  have hA : ∀ q : Nat, s.heap.size ≤ q → A q := fun q h => by rw [← hAe]; exact Or.inr h
  have hS : va_S A s.heap s.heap [] := va_S.rf
  have hP : va_P (dC, dI) vwCl [(h0, .inr (6, [.int 0, .int 0, .int 0, .int 0, .null, .null]))] s.heap := hP
  have hl := lv_entry ([.ref h0]) (n := 1) (Nat.le_of_ble_eq_true rfl)
  rw [lg_entry_eq]
  generalize (lg_sl ([.ref h0]) ++ List.replicate (1 - (lg_sl ([.ref h0])).length) Slot.unset).toArray = ls at hl ⊢
  have hl : lv_has ls 1 [(0, .ref h0)] := hl
  refine lv_aload_n hx hb dX6_init_0 rfl (lv_at hl 0 rfl) ?_
  refine W.objInit hx hb hown (hts (.methodLink RX6 3 objectInit) (List.mem_of_getElem? (i := 1) rfl)) (hts (.instanceMethod objectInit) (List.mem_of_getElem? (i := 2) rfl)) (hts (.code objectInit ⟨#[0xb1]⟩ 1 none) (List.mem_of_getElem? (i := 3) rfl)) rfl (by rw [hml]; exact hl.1) rfl dX6_init_1 (Nat.le_of_ble_eq_true rfl) (Nat.le_of_ble_eq_true rfl) ?_
  refine W.eq (g2 := F0 m 4 ls []) rfl ?_
  refine lv_aload_n hx hb dX6_init_4 rfl (lv_at hl 0 rfl) ?_
  refine lv_iconst (v := 0) hx hb dX6_init_5 (by decide) ?_
  refine va_put (D := (dC, dI)) (ci := 6) (v := .int 0) (ty := .int) (C := RX6) (T := TX6) (N := 6) hx hb hts inw_X6_init_X6 tyX6 tyX6_ok nmX6 hown hK hP hD hS 0 rfl rfl 0 (by decide) (hts (.fieldLink RX6 9 "DuelFrames$Tape" "frames" "I") (List.mem_of_getElem? (i := 4) rfl)) (fun _ h9 => h9) rfl (by decide +kernel) rfl rfl (Nat.le_of_ble_eq_true rfl) dX6_init_6 (fun H locs hP1 hD1 hS1 => ?_)
  clear hP hD hS
  have hP : va_P (dC, dI) vwCl [(h0, .inr (6, [.int 0, .int 0, .int 0, .int 0, .null, .null]))] H := hP1
  have hD : va_D A [(h0, .inr (6, [.int 0, .int 0, .int 0, .int 0, .null, .null]))] := hD1
  have hS := hS1
  clear hP1 hD1 hS1
  refine lv_aload_n hx hb dX6_init_9 rfl (lv_at hl 0 rfl) ?_
  refine lv_iconst (v := 0) hx hb dX6_init_10 (by decide) ?_
  refine va_put (D := (dC, dI)) (ci := 6) (v := .int 0) (ty := .int) (C := RX6) (T := TX6) (N := 6) hx hb hts inw_X6_init_X6 tyX6 tyX6_ok nmX6 hown hK hP hD hS 0 rfl rfl 1 (by decide) (hts (.fieldLink RX6 15 "DuelFrames$Tape" "apart" "I") (List.mem_of_getElem? (i := 5) rfl)) (fun _ h9 => h9) rfl (by decide +kernel) rfl rfl (Nat.le_of_ble_eq_true rfl) dX6_init_11 (fun H locs hP1 hD1 hS1 => ?_)
  clear hP hD hS
  have hP : va_P (dC, dI) vwCl [(h0, .inr (6, [.int 0, .int 0, .int 0, .int 0, .null, .null]))] H := hP1
  have hD : va_D A [(h0, .inr (6, [.int 0, .int 0, .int 0, .int 0, .null, .null]))] := hD1
  have hS := hS1
  clear hP1 hD1 hS1
  refine lv_aload_n hx hb dX6_init_14 rfl (lv_at hl 0 rfl) ?_
  refine lv_iconst (v := 0) hx hb dX6_init_15 (by decide) ?_
  refine va_put (D := (dC, dI)) (ci := 6) (v := .int 0) (ty := .int) (C := RX6) (T := TX6) (N := 6) hx hb hts inw_X6_init_X6 tyX6 tyX6_ok nmX6 hown hK hP hD hS 0 rfl rfl 2 (by decide) (hts (.fieldLink RX6 18 "DuelFrames$Tape" "leftMeter" "I") (List.mem_of_getElem? (i := 6) rfl)) (fun _ h9 => h9) rfl (by decide +kernel) rfl rfl (Nat.le_of_ble_eq_true rfl) dX6_init_16 (fun H locs hP1 hD1 hS1 => ?_)
  clear hP hD hS
  have hP : va_P (dC, dI) vwCl [(h0, .inr (6, [.int 0, .int 0, .int 0, .int 0, .null, .null]))] H := hP1
  have hD : va_D A [(h0, .inr (6, [.int 0, .int 0, .int 0, .int 0, .null, .null]))] := hD1
  have hS := hS1
  clear hP1 hD1 hS1
  refine lv_aload_n hx hb dX6_init_19 rfl (lv_at hl 0 rfl) ?_
  refine lv_iconst (v := 0) hx hb dX6_init_20 (by decide) ?_
  refine va_put (D := (dC, dI)) (ci := 6) (v := .int 0) (ty := .int) (C := RX6) (T := TX6) (N := 6) hx hb hts inw_X6_init_X6 tyX6 tyX6_ok nmX6 hown hK hP hD hS 0 rfl rfl 3 (by decide) (hts (.fieldLink RX6 21 "DuelFrames$Tape" "rightMeter" "I") (List.mem_of_getElem? (i := 7) rfl)) (fun _ h9 => h9) rfl (by decide +kernel) rfl rfl (Nat.le_of_ble_eq_true rfl) dX6_init_21 (fun H locs hP1 hD1 hS1 => ?_)
  clear hP hD hS
  have hP : va_P (dC, dI) vwCl [(h0, .inr (6, [.int 0, .int 0, .int 0, .int 0, .null, .null]))] H := hP1
  have hD : va_D A [(h0, .inr (6, [.int 0, .int 0, .int 0, .int 0, .null, .null]))] := hD1
  have hS := hS1
  clear hP1 hD1 hS1
  refine lv_aload_n hx hb dX6_init_24 rfl (lv_at hl 0 rfl) ?_
  refine lv_sipush (v := 600) hx hb dX6_init_25 (by decide) ?_
  refine va_newa (D := (dC, dI)) (atype := .int) (ty := .int) (a0 := (600, .inl (fun _ => 0))) (N' := 600) hx hb (hts (.arrayClass .int) (List.mem_of_getElem? (i := 8) rfl)) rfl hK hP hD hS hA (fun _ => rfl) (by decide) (by decide +kernel) (Nat.le_of_ble_eq_true rfl) (Nat.le_of_ble_eq_true rfl) (Nat.le_of_ble_eq_true rfl) dX6_init_28 (fun q28_17 cA H hK1 hP1 hD1 hS1 => ?_)
  obtain rfl : cA = cY 0 := ra_i (hK1.2 5 (cA, .int) rfl).2 (hK1.2 0 (cY 0, .int) rfl).2
  clear hK1
  clear hP hD hS
  have hP : va_P (dC, dI) vwCl [(h0, .inr (6, [.int 0, .int 0, .int 0, .int 0, .null, .null])), (q28_17, .inl (cY 0, 600, .inl (fun _ => 0)))] H := hP1
  have hD : va_D A [(h0, .inr (6, [.int 0, .int 0, .int 0, .int 0, .null, .null])), (q28_17, .inl (cY 0, 600, .inl (fun _ => 0)))] := hD1
  have hS := hS1
  clear hP1 hD1 hS1
  refine W.widen (k := 1) (n := 600) (Nat.le_of_ble_eq_true rfl) (Nat.le_of_ble_eq_true rfl) ?_
  refine va_putF (D := (dC, dI)) (ci := 6) (v := .ref q28_17) (ty := (.array .int)) (C := RX6) (T := TX6) (N := 6) hx hb hts inw_X6_init_X6 tyX6 tyX6_ok nmX6 hown hK hP hD hS 0 rfl rfl 4 (by decide) (hts (.fieldLink RX6 24 "DuelFrames$Tape" "ones" "[I") (List.mem_of_getElem? (i := 9) rfl)) (fun _ h9 => h9) rfl hin rfl (by decide +kernel) rfl rfl (Nat.le_of_ble_eq_true rfl) dX6_init_30 (fun H locs hP1 hD1 hS1 => ?_)
  clear hP hD hS
  have hP : va_P (dC, dI) vwCl [(h0, .inr (6, [.int 0, .int 0, .int 0, .int 0, .ref q28_17, .null])), (q28_17, .inl (cY 0, 600, .inl (fun _ => 0)))] H := hP1
  have hD : va_D A [(h0, .inr (6, [.int 0, .int 0, .int 0, .int 0, .ref q28_17, .null])), (q28_17, .inl (cY 0, 600, .inl (fun _ => 0)))] := hD1
  have hS := hS1
  clear hP1 hD1 hS1
  refine lv_aload_n hx hb dX6_init_33 rfl (lv_at hl 0 rfl) ?_
  refine lv_sipush (v := 600) hx hb dX6_init_34 (by decide) ?_
  refine va_newa (D := (dC, dI)) (atype := .int) (ty := .int) (a0 := (600, .inl (fun _ => 0))) (N' := 600) hx hb (hts (.arrayClass .int) (List.mem_of_getElem? (i := 8) rfl)) rfl hK hP hD hS hA (fun _ => rfl) (by decide) (by decide +kernel) (Nat.le_of_ble_eq_true rfl) (Nat.le_of_ble_eq_true rfl) (Nat.le_of_ble_eq_true rfl) dX6_init_37 (fun q37_21 cA H hK1 hP1 hD1 hS1 => ?_)
  obtain rfl : cA = cY 0 := ra_i (hK1.2 5 (cA, .int) rfl).2 (hK1.2 0 (cY 0, .int) rfl).2
  clear hK1
  clear hP hD hS
  have hP : va_P (dC, dI) vwCl [(h0, .inr (6, [.int 0, .int 0, .int 0, .int 0, .ref q28_17, .null])), (q28_17, .inl (cY 0, 600, .inl (fun _ => 0))), (q37_21, .inl (cY 0, 600, .inl (fun _ => 0)))] H := hP1
  have hD : va_D A [(h0, .inr (6, [.int 0, .int 0, .int 0, .int 0, .ref q28_17, .null])), (q28_17, .inl (cY 0, 600, .inl (fun _ => 0))), (q37_21, .inl (cY 0, 600, .inl (fun _ => 0)))] := hD1
  have hS := hS1
  clear hP1 hD1 hS1
  refine W.widen (k := 2) (n := 1200) (Nat.le_of_ble_eq_true rfl) (Nat.le_of_ble_eq_true rfl) ?_
  refine va_putF (D := (dC, dI)) (ci := 6) (v := .ref q37_21) (ty := (.array .int)) (C := RX6) (T := TX6) (N := 6) hx hb hts inw_X6_init_X6 tyX6 tyX6_ok nmX6 hown hK hP hD hS 0 rfl rfl 5 (by decide) (hts (.fieldLink RX6 28 "DuelFrames$Tape" "twos" "[I") (List.mem_of_getElem? (i := 10) rfl)) (fun _ h9 => h9) rfl hin rfl (by decide +kernel) rfl rfl (Nat.le_of_ble_eq_true rfl) dX6_init_39 (fun H locs hP1 hD1 hS1 => ?_)
  clear hP hD hS
  have hP : va_P (dC, dI) vwCl [(h0, .inr (6, [.int 0, .int 0, .int 0, .int 0, .ref q28_17, .ref q37_21])), (q28_17, .inl (cY 0, 600, .inl (fun _ => 0))), (q37_21, .inl (cY 0, 600, .inl (fun _ => 0)))] H := hP1
  have hD : va_D A [(h0, .inr (6, [.int 0, .int 0, .int 0, .int 0, .ref q28_17, .ref q37_21])), (q28_17, .inl (cY 0, 600, .inl (fun _ => 0))), (q37_21, .inl (cY 0, 600, .inl (fun _ => 0)))] := hD1
  have hS := hS1
  clear hP1 hD1 hS1
  have hP9 := hP.sub (ws' := [(h0, .inr (6, [.int 0, .int 0, .int 0, .int 0, .ref q28_17, .ref q37_21])), (q28_17, .inl (cY 0, 600, .inl (fun _ => 0))), (q37_21, .inl (cY 0, 600, .inl (fun _ => 0)))]) [0, 1, 2] rfl
  have hD9 := hD.sub (ws' := [(h0, .inr (6, [.int 0, .int 0, .int 0, .int 0, .ref q28_17, .ref q37_21])), (q28_17, .inl (cY 0, 600, .inl (fun _ => 0))), (q37_21, .inl (cY 0, 600, .inl (fun _ => 0)))]) [0, 1, 2] (by decide +kernel) rfl
  refine W.widen (k := 2) (n := 1200) (Nat.le_of_ble_eq_true rfl) (Nat.le_of_ble_eq_true rfl) ?_
  exact W.vret hx hb hr (fun t ht hW => ⟨⟨(fun k => [q28_17, q37_21].getD k 0), rfl, trivial, wPost_of hP9 hD9 ht⟩, hS.F ht⟩) hS.2.2 dX6_init_42
theorem inw_X5_init_X5 : ∀ w ∈ u_ws RX5 TX5 3, w ∈ wsX5_init := fun _ h => List.mem_cons_of_mem _ (List.mem_append_left _ (List.mem_append_right _ h))
theorem inw_X5_init_X4 : ∀ w ∈ u_ws RX4 TX4 8, w ∈ wsX5_init := fun _ h => List.mem_cons_of_mem _ (List.mem_append_right _ h)
theorem c_X5_init (l : Launch) (dC : Nat → ClassId) (dI : Nat → Nat → Nat) (cY : Nat → ClassId) (h0 : Nat) (sz : Nat) : Met l yX5_init wsX5_init ({ frames := 2, cells := 22, slots := 139, locals := 40 } : Room) (va_Pc [.ref h0] (iPre (dC, dI) (tyL cY) [(h0, .inr (5, [.int 0, .null, .null]))] sz)) (va_Qv (fun u : Nat → Nat => u 0 = h0) (fun u : Nat → Nat => wPost (dC, dI) [(u 0, .inr (5, [.int 0, .ref (u 1), .ref (u 8)])), (u 1, .inl (cY 2, 6, .inr (.inr (.inr (.inr (fun j => some (u (2 + j)))))))), (u 2, .inr (4, [.int 0, .int 0, .int 0, .int 0, .int 0, .int 0, .ref (u 9), .ref (u 16)])), (u 3, .inr (4, [.int 0, .int 0, .int 0, .int 0, .int 0, .int 0, .ref (u 10), .ref (u 17)])), (u 4, .inr (4, [.int 0, .int 0, .int 0, .int 0, .int 0, .int 0, .ref (u 11), .ref (u 18)])), (u 5, .inr (4, [.int 0, .int 0, .int 0, .int 0, .int 0, .int 0, .ref (u 12), .ref (u 19)])), (u 6, .inr (4, [.int 0, .int 0, .int 0, .int 0, .int 0, .int 0, .ref (u 13), .ref (u 20)])), (u 7, .inr (4, [.int 0, .int 0, .int 0, .int 0, .int 0, .int 0, .ref (u 14), .ref (u 21)])), (u 8, .inr (4, [.int 0, .int 0, .int 0, .int 0, .int 0, .int 0, .ref (u 15), .ref (u 22)])), (u 9, .inl (cY 0, 5, .inl (fun _ => 0))), (u 10, .inl (cY 0, 5, .inl (fun _ => 0))), (u 11, .inl (cY 0, 5, .inl (fun _ => 0))), (u 12, .inl (cY 0, 5, .inl (fun _ => 0))), (u 13, .inl (cY 0, 5, .inl (fun _ => 0))), (u 14, .inl (cY 0, 5, .inl (fun _ => 0))), (u 15, .inl (cY 0, 5, .inl (fun _ => 0))), (u 16, .inl (cY 1, 6, .inl (fun _ => 0))), (u 17, .inl (cY 1, 6, .inl (fun _ => 0))), (u 18, .inl (cY 1, 6, .inl (fun _ => 0))), (u 19, .inl (cY 1, 6, .inl (fun _ => 0))), (u 20, .inl (cY 1, 6, .inl (fun _ => 0))), (u 21, .inl (cY 1, 6, .inl (fun _ => 0))), (u 22, .inl (cY 1, 6, .inl (fun _ => 0)))] (va_A [(h0, .inr (5, [.int 0, .null, .null]))] sz) ()) (va_A [(h0, .inr (5, [.int 0, .null, .null]))] sz)) 22 139 (va_A [(h0, .inr (5, [.int 0, .null, .null]))] sz) := by
  refine Met.ofW (cc := cX5_init) (maxL := 2) (ret := none) (by decide) rfl ?_
  intro p e s m args below meth c s₁ B hml hv
  obtain ⟨rfl, ⟨hsz, hP, hK, hN, hD0⟩, hO⟩ := hv
  have hx := B.exec
  have hb := B.bytes
  have hr := B.returns
  have hts := atoms_spec (ws := wsX5_init) B.pre
  have hown : s.vm.findClass RX5 = some m.cls := findClass_of_methodNamed B.named
  have hlocks := B.notSynchronized
  have hin : meth.name = "<init>" := (name_of_methodNamed B.named B.method).1
  subst hsz
  have hD := hD0.self (sz := s.heap.size)
  generalize hAe : va_A [(h0, .inr (5, [.int 0, .null, .null]))] s.heap.size = A at hD ⊢
  have hA : ∀ q : Nat, s.heap.size ≤ q → A q := fun q h => by rw [← hAe]; exact Or.inr h
  have hS : va_S A s.heap s.heap [] := va_S.rf
  have hP : va_P (dC, dI) vwCl [(h0, .inr (5, [.int 0, .null, .null]))] s.heap := hP
  have hl := lv_entry ([.ref h0]) (n := 2) (Nat.le_of_ble_eq_true rfl)
  rw [lg_entry_eq]
  generalize (lg_sl ([.ref h0]) ++ List.replicate (2 - (lg_sl ([.ref h0])).length) Slot.unset).toArray = ls at hl ⊢
  have hl : lv_has ls 2 [(0, .ref h0)] := hl
  refine lv_aload_n hx hb dX5_init_0 rfl (lv_at hl 0 rfl) ?_
  refine W.objInit hx hb hown (hts (.methodLink RX5 3 objectInit) (List.mem_of_getElem? (i := 1) rfl)) (hts (.instanceMethod objectInit) (List.mem_of_getElem? (i := 2) rfl)) (hts (.code objectInit ⟨#[0xb1]⟩ 1 none) (List.mem_of_getElem? (i := 3) rfl)) rfl (by rw [hml]; exact hl.1) rfl dX5_init_1 (Nat.le_of_ble_eq_true rfl) (Nat.le_of_ble_eq_true rfl) ?_
  refine W.eq (g2 := F0 m 4 ls []) rfl ?_
  refine lv_aload_n hx hb dX5_init_4 rfl (lv_at hl 0 rfl) ?_
  refine lv_iconst (v := 0) hx hb dX5_init_5 (by decide) ?_
  refine va_put (D := (dC, dI)) (ci := 5) (v := .int 0) (ty := .int) (C := RX5) (T := TX5) (N := 3) hx hb hts inw_X5_init_X5 tyX5 tyX5_ok nmX5 hown hK hP hD hS 0 rfl rfl 0 (by decide) (hts (.fieldLink RX5 9 "DuelFrames$MoveList" "count" "I") (List.mem_of_getElem? (i := 4) rfl)) (fun _ h9 => h9) rfl (by decide +kernel) rfl rfl (Nat.le_of_ble_eq_true rfl) dX5_init_6 (fun H locs hP1 hD1 hS1 => ?_)
  clear hP hD hS
  have hP : va_P (dC, dI) vwCl [(h0, .inr (5, [.int 0, .null, .null]))] H := hP1
  have hD : va_D A [(h0, .inr (5, [.int 0, .null, .null]))] := hD1
  have hS := hS1
  clear hP1 hD1 hS1
  refine lv_aload_n hx hb dX5_init_9 rfl (lv_at hl 0 rfl) ?_
  refine lv_bipush (v := 6) hx hb dX5_init_10 (by decide) ?_
  refine va_newq (D := (dC, dI)) (C := RX4) (N' := 6) hx hb hown (hts (.classLink RX5 15 RX4) (List.mem_of_getElem? (i := 5) rfl)) hO.1 hK hP hD hS hA (by decide) (by decide +kernel) (Nat.le_of_ble_eq_true rfl) (Nat.le_of_ble_eq_true rfl) (Nat.le_of_ble_eq_true rfl) dX5_init_12 (fun q12_8 cA H hK1 hP1 hD1 hS1 => ?_)
  obtain rfl : cA = cY 2 := ra_o (hK1.2 5 (cA, .object RX4) rfl).2 (hK1.2 2 (cY 2, .object RX4) rfl).2
  clear hK1
  clear hP hD hS
  have hP : va_P (dC, dI) vwCl [(h0, .inr (5, [.int 0, .null, .null])), (q12_8, .inl (cY 2, 6, .inr (.inr (.inr (.inr (fun _ => none))))))] H := hP1
  have hD : va_D A [(h0, .inr (5, [.int 0, .null, .null])), (q12_8, .inl (cY 2, 6, .inr (.inr (.inr (.inr (fun _ => none))))))] := hD1
  have hS := hS1
  clear hP1 hD1 hS1
  refine W.widen (k := 1) (n := 6) (Nat.le_of_ble_eq_true rfl) (Nat.le_of_ble_eq_true rfl) ?_
  refine va_putF (D := (dC, dI)) (ci := 5) (v := .ref q12_8) (ty := (.array (.object "DuelFrames$Move"))) (C := RX5) (T := TX5) (N := 3) hx hb hts inw_X5_init_X5 tyX5 tyX5_ok nmX5 hown hK hP hD hS 0 rfl rfl 1 (by decide) (hts (.fieldLink RX5 17 "DuelFrames$MoveList" "row" "[LDuelFrames$Move;") (List.mem_of_getElem? (i := 6) rfl)) (fun _ h9 => h9) rfl hin rfl (by decide +kernel) rfl rfl (Nat.le_of_ble_eq_true rfl) dX5_init_15 (fun H locs hP1 hD1 hS1 => ?_)
  clear hP hD hS
  have hP : va_P (dC, dI) vwCl [(h0, .inr (5, [.int 0, .ref q12_8, .null])), (q12_8, .inl (cY 2, 6, .inr (.inr (.inr (.inr (fun _ => none))))))] H := hP1
  have hD : va_D A [(h0, .inr (5, [.int 0, .ref q12_8, .null])), (q12_8, .inl (cY 2, 6, .inr (.inr (.inr (.inr (fun _ => none))))))] := hD1
  have hS := hS1
  clear hP1 hD1 hS1
  refine lv_aload_n hx hb dX5_init_18 rfl (lv_at hl 0 rfl) ?_
  refine va_new (D := (dC, dI)) (ci := 4) (fs := [.int 0, .int 0, .int 0, .int 0, .int 0, .int 0, .null, .null]) (C := RX4) (T := TX4) (N := 8) hx hb hts inw_X5_init_X4 tyX4 tyX4_ok hown (hts (.classLink RX5 15 RX4) (List.mem_of_getElem? (i := 5) rfl)) (hts (.instantiable RX4 8) (List.mem_of_getElem? (i := 7) rfl)) (hts (.initialized RX4) (List.mem_of_getElem? (i := 8) rfl)) hK hP hD hS hA rfl (fun j hj => by rcases (show j = 0 ∨ j = 1 ∨ j = 2 ∨ j = 3 ∨ j = 4 ∨ j = 5 ∨ j = 6 ∨ j = 7 by omega) with rfl | rfl | rfl | rfl | rfl | rfl | rfl | rfl <;> rfl) (Nat.le_of_ble_eq_true rfl) (Nat.le_of_ble_eq_true rfl) dX5_init_19 (fun q19_11 H hP1 hD1 hS1 => ?_)
  clear hP hD hS
  have hP : va_P (dC, dI) vwCl [(h0, .inr (5, [.int 0, .ref q12_8, .null])), (q12_8, .inl (cY 2, 6, .inr (.inr (.inr (.inr (fun _ => none)))))), (q19_11, .inr (4, [.int 0, .int 0, .int 0, .int 0, .int 0, .int 0, .null, .null]))] H := hP1
  have hD : va_D A [(h0, .inr (5, [.int 0, .ref q12_8, .null])), (q12_8, .inl (cY 2, 6, .inr (.inr (.inr (.inr (fun _ => none)))))), (q19_11, .inr (4, [.int 0, .int 0, .int 0, .int 0, .int 0, .int 0, .null, .null]))] := hD1
  have hS := hS1
  clear hP1 hD1 hS1
  refine W.widen (k := 2) (n := 14) (Nat.le_of_ble_eq_true rfl) (Nat.le_of_ble_eq_true rfl) ?_
  refine lv_dup hx hb dX5_init_22 rfl ?_
  have hPc := hP.sub (ws' := [(q19_11, .inr (4, [.int 0, .int 0, .int 0, .int 0, .int 0, .int 0, .null, .null]))]) [2] rfl
  have hDc := hD.sub (ws' := [(q19_11, .inr (4, [.int 0, .int 0, .int 0, .int 0, .int 0, .int 0, .null, .null]))]) [2] (by decide) rfl
  have hFc := va_free (wc := [(q19_11, .inr (4, [.int 0, .int 0, .int 0, .int 0, .int 0, .int 0, .null, .null]))]) hD hS hA [2] rfl
  refine va_callv (va_runIN (As := []) (rest := [.ref q19_11, .ref h0]) ⟨hx, hb, hml, hown, hts⟩ (c_X4_init l dC dI cY q19_11 H.size) ⟨va_cnB 0 hts gX5_init_X4_init_n21 rfl rfl rfl hN.2.2.1 (hts (.initialized RX4) (List.mem_of_getElem? (i := 8) rfl)) (by decide +kernel) ⟨(Nat.le_of_ble_eq_true rfl), (Nat.le_of_ble_eq_true rfl)⟩, rfl, (hts (.instanceMethod yX4_init) (List.mem_of_getElem? (i := 10) rfl))⟩ ⟨blindW, fun U hU hW => ⟨rfl, wPre_of hPc hK hN hDc U hU hW⟩⟩ rfl rfl hl.1 rfl (lv_room (Nat.le_of_ble_eq_true rfl)) dX5_init_23 ⟨(Nat.le_of_ble_eq_true rfl), (Nat.le_of_ble_eq_true rfl)⟩) hS (fun q _ h => hFc q h) hFc (fun u23_13 t H1 locs ht hvm hw hB hz1 hk1 hS1 => ?_)
  have hJ := wJoin (wr := [(h0, .inr (5, [.int 0, .ref q12_8, .null])), (q12_8, .inl (cY 2, 6, .inr (.inr (.inr (.inr (fun _ => none))))))]) (w1 := [(q19_11, .inr (4, [.int 0, .int 0, .int 0, .int 0, .int 0, .int 0, .ref (u23_13 0), .ref (u23_13 1)])), (u23_13 0, .inl (cY 0, 5, .inl (fun _ => 0))), (u23_13 1, .inl (cY 1, 6, .inl (fun _ => 0)))]) (wn := [(h0, .inr (5, [.int 0, .ref q12_8, .null])), (q12_8, .inl (cY 2, 6, .inr (.inr (.inr (.inr (fun _ => none)))))), (q19_11, .inr (4, [.int 0, .int 0, .int 0, .int 0, .int 0, .int 0, .ref (u23_13 0), .ref (u23_13 1)])), (u23_13 0, .inl (cY 0, 5, .inl (fun _ => 0))), (u23_13 1, .inl (cY 1, 6, .inl (fun _ => 0)))]) hP hD [2] [0, 1] rfl rfl (by decide +kernel) (by decide +kernel) hk1 hFc hB ht [0, 1, 2, 3, 4] rfl (by decide +kernel)
  clear hB hk1 hFc hPc hDc hP hD hS hz1 hvm ht t
  obtain ⟨hP1, hD1⟩ := hJ
  generalize H1 = H at hP1 hS1 ⊢
  have hP : va_P (dC, dI) vwCl [(h0, .inr (5, [.int 0, .ref q12_8, .null])), (q12_8, .inl (cY 2, 6, .inr (.inr (.inr (.inr (fun _ => none)))))), (q19_11, .inr (4, [.int 0, .int 0, .int 0, .int 0, .int 0, .int 0, .ref (u23_13 0), .ref (u23_13 1)])), (u23_13 0, .inl (cY 0, 5, .inl (fun _ => 0))), (u23_13 1, .inl (cY 1, 6, .inl (fun _ => 0)))] H := hP1
  have hD : va_D A [(h0, .inr (5, [.int 0, .ref q12_8, .null])), (q12_8, .inl (cY 2, 6, .inr (.inr (.inr (.inr (fun _ => none)))))), (q19_11, .inr (4, [.int 0, .int 0, .int 0, .int 0, .int 0, .int 0, .ref (u23_13 0), .ref (u23_13 1)])), (u23_13 0, .inl (cY 0, 5, .inl (fun _ => 0))), (u23_13 1, .inl (cY 1, 6, .inl (fun _ => 0)))] := hD1
  have hS := hS1
  clear hP1 hD1 hS1
  refine W.widen (k := 4) (n := 25) (Nat.le_of_ble_eq_true rfl) (Nat.le_of_ble_eq_true rfl) ?_
  refine va_putF (D := (dC, dI)) (ci := 5) (v := .ref q19_11) (ty := (.object "DuelFrames$Move")) (C := RX5) (T := TX5) (N := 3) hx hb hts inw_X5_init_X5 tyX5 tyX5_ok nmX5 hown hK hP hD hS 0 rfl rfl 2 (by decide) (hts (.fieldLink RX5 22 "DuelFrames$MoveList" "none" "LDuelFrames$Move;") (List.mem_of_getElem? (i := 9) rfl)) (fun _ h9 => h9) rfl hin rfl (by decide +kernel) rfl rfl (Nat.le_of_ble_eq_true rfl) dX5_init_26 (fun H locs hP1 hD1 hS1 => ?_)
  clear hP hD hS
  have hP : va_P (dC, dI) vwCl [(h0, .inr (5, [.int 0, .ref q12_8, .ref q19_11])), (q12_8, .inl (cY 2, 6, .inr (.inr (.inr (.inr (fun _ => none)))))), (q19_11, .inr (4, [.int 0, .int 0, .int 0, .int 0, .int 0, .int 0, .ref (u23_13 0), .ref (u23_13 1)])), (u23_13 0, .inl (cY 0, 5, .inl (fun _ => 0))), (u23_13 1, .inl (cY 1, 6, .inl (fun _ => 0)))] H := hP1
  have hD : va_D A [(h0, .inr (5, [.int 0, .ref q12_8, .ref q19_11])), (q12_8, .inl (cY 2, 6, .inr (.inr (.inr (.inr (fun _ => none)))))), (q19_11, .inr (4, [.int 0, .int 0, .int 0, .int 0, .int 0, .int 0, .ref (u23_13 0), .ref (u23_13 1)])), (u23_13 0, .inl (cY 0, 5, .inl (fun _ => 0))), (u23_13 1, .inl (cY 1, 6, .inl (fun _ => 0)))] := hD1
  have hS := hS1
  clear hP1 hD1 hS1
  refine lv_iconst (v := 0) hx hb dX5_init_29 (by decide) ?_
  refine lv_istore_n (lv' := [(1, .int 0), (0, .ref h0)]) hx hb dX5_init_30 rfl hl (by decide) rfl (fun ls hl => ?_)
  refine lv_iload_n hx hb dX5_init_31 rfl (lv_at hl 0 rfl) ?_
  refine lv_bipush (v := 6) hx hb dX5_init_32 (by decide) ?_
  refine lv_icmp_ge (tgt := 56) hx hb dX5_init_34 (by decide) (fun c_19 => ?_) (fun c_19 => ?_)
  · exact absurd c_19 (by decide)
  refine lv_aload_n hx hb dX5_init_37 rfl (lv_at hl 1 rfl) ?_
  refine va_get (D := (dC, dI)) (ci := 5) (v := .ref q12_8) (C := RX5) (T := TX5) (N := 3) hx hb hts inw_X5_init_X5 hown hK hP 0 rfl rfl 1 (by decide) (hts (.fieldLink RX5 17 "DuelFrames$MoveList" "row" "[LDuelFrames$Move;") (List.mem_of_getElem? (i := 6) rfl)) (fun _ h9 => h9) rfl dX5_init_38 ?_
  refine lv_iload_n hx hb dX5_init_41 rfl (lv_at hl 0 rfl) ?_
  refine va_new (D := (dC, dI)) (ci := 4) (fs := [.int 0, .int 0, .int 0, .int 0, .int 0, .int 0, .null, .null]) (C := RX4) (T := TX4) (N := 8) hx hb hts inw_X5_init_X4 tyX4 tyX4_ok hown (hts (.classLink RX5 15 RX4) (List.mem_of_getElem? (i := 5) rfl)) (hts (.instantiable RX4 8) (List.mem_of_getElem? (i := 7) rfl)) (hts (.initialized RX4) (List.mem_of_getElem? (i := 8) rfl)) hK hP hD hS hA rfl (fun j hj => by rcases (show j = 0 ∨ j = 1 ∨ j = 2 ∨ j = 3 ∨ j = 4 ∨ j = 5 ∨ j = 6 ∨ j = 7 by omega) with rfl | rfl | rfl | rfl | rfl | rfl | rfl | rfl <;> rfl) (Nat.le_of_ble_eq_true rfl) (Nat.le_of_ble_eq_true rfl) dX5_init_42 (fun q42_23 H hP1 hD1 hS1 => ?_)
  clear hP hD hS
  have hP : va_P (dC, dI) vwCl [(h0, .inr (5, [.int 0, .ref q12_8, .ref q19_11])), (q12_8, .inl (cY 2, 6, .inr (.inr (.inr (.inr (fun _ => none)))))), (q19_11, .inr (4, [.int 0, .int 0, .int 0, .int 0, .int 0, .int 0, .ref (u23_13 0), .ref (u23_13 1)])), (u23_13 0, .inl (cY 0, 5, .inl (fun _ => 0))), (u23_13 1, .inl (cY 1, 6, .inl (fun _ => 0))), (q42_23, .inr (4, [.int 0, .int 0, .int 0, .int 0, .int 0, .int 0, .null, .null]))] H := hP1
  have hD : va_D A [(h0, .inr (5, [.int 0, .ref q12_8, .ref q19_11])), (q12_8, .inl (cY 2, 6, .inr (.inr (.inr (.inr (fun _ => none)))))), (q19_11, .inr (4, [.int 0, .int 0, .int 0, .int 0, .int 0, .int 0, .ref (u23_13 0), .ref (u23_13 1)])), (u23_13 0, .inl (cY 0, 5, .inl (fun _ => 0))), (u23_13 1, .inl (cY 1, 6, .inl (fun _ => 0))), (q42_23, .inr (4, [.int 0, .int 0, .int 0, .int 0, .int 0, .int 0, .null, .null]))] := hD1
  have hS := hS1
  clear hP1 hD1 hS1
  refine W.widen (k := 5) (n := 33) (Nat.le_of_ble_eq_true rfl) (Nat.le_of_ble_eq_true rfl) ?_
  refine lv_dup hx hb dX5_init_45 rfl ?_
  have hPc := hP.sub (ws' := [(q42_23, .inr (4, [.int 0, .int 0, .int 0, .int 0, .int 0, .int 0, .null, .null]))]) [5] rfl
  have hDc := hD.sub (ws' := [(q42_23, .inr (4, [.int 0, .int 0, .int 0, .int 0, .int 0, .int 0, .null, .null]))]) [5] (by decide) rfl
  have hFc := va_free (wc := [(q42_23, .inr (4, [.int 0, .int 0, .int 0, .int 0, .int 0, .int 0, .null, .null]))]) hD hS hA [5] rfl
  refine va_callv (va_runIN (As := []) (rest := [.ref q42_23, .int 0, .ref q12_8]) ⟨hx, hb, hml, hown, hts⟩ (c_X4_init l dC dI cY q42_23 H.size) ⟨va_cnB 0 hts gX5_init_X4_init_n21 rfl rfl rfl hN.2.2.1 (hts (.initialized RX4) (List.mem_of_getElem? (i := 8) rfl)) (by decide +kernel) ⟨(Nat.le_of_ble_eq_true rfl), (Nat.le_of_ble_eq_true rfl)⟩, rfl, (hts (.instanceMethod yX4_init) (List.mem_of_getElem? (i := 10) rfl))⟩ ⟨blindW, fun U hU hW => ⟨rfl, wPre_of hPc hK hN hDc U hU hW⟩⟩ rfl rfl hl.1 rfl (lv_room (Nat.le_of_ble_eq_true rfl)) dX5_init_46 ⟨(Nat.le_of_ble_eq_true rfl), (Nat.le_of_ble_eq_true rfl)⟩) hS (fun q _ h => hFc q h) hFc (fun u46_25 t H1 locs ht hvm hw hB hz1 hk1 hS1 => ?_)
  have hJ := wJoin (wr := [(h0, .inr (5, [.int 0, .ref q12_8, .ref q19_11])), (q12_8, .inl (cY 2, 6, .inr (.inr (.inr (.inr (fun _ => none)))))), (q19_11, .inr (4, [.int 0, .int 0, .int 0, .int 0, .int 0, .int 0, .ref (u23_13 0), .ref (u23_13 1)])), (u23_13 0, .inl (cY 0, 5, .inl (fun _ => 0))), (u23_13 1, .inl (cY 1, 6, .inl (fun _ => 0)))]) (w1 := [(q42_23, .inr (4, [.int 0, .int 0, .int 0, .int 0, .int 0, .int 0, .ref (u46_25 0), .ref (u46_25 1)])), (u46_25 0, .inl (cY 0, 5, .inl (fun _ => 0))), (u46_25 1, .inl (cY 1, 6, .inl (fun _ => 0)))]) (wn := [(h0, .inr (5, [.int 0, .ref q12_8, .ref q19_11])), (q12_8, .inl (cY 2, 6, .inr (.inr (.inr (.inr (fun _ => none)))))), (q19_11, .inr (4, [.int 0, .int 0, .int 0, .int 0, .int 0, .int 0, .ref (u23_13 0), .ref (u23_13 1)])), (u23_13 0, .inl (cY 0, 5, .inl (fun _ => 0))), (u23_13 1, .inl (cY 1, 6, .inl (fun _ => 0))), (q42_23, .inr (4, [.int 0, .int 0, .int 0, .int 0, .int 0, .int 0, .ref (u46_25 0), .ref (u46_25 1)])), (u46_25 0, .inl (cY 0, 5, .inl (fun _ => 0))), (u46_25 1, .inl (cY 1, 6, .inl (fun _ => 0)))]) hP hD [5] [0, 1, 2, 3, 4] rfl rfl (by decide +kernel) (by decide +kernel) hk1 hFc hB ht [0, 1, 2, 3, 4, 5, 6, 7] rfl (by decide +kernel)
  clear hB hk1 hFc hPc hDc hP hD hS hz1 hvm ht t
  obtain ⟨hP1, hD1⟩ := hJ
  generalize H1 = H at hP1 hS1 ⊢
  have hP : va_P (dC, dI) vwCl [(h0, .inr (5, [.int 0, .ref q12_8, .ref q19_11])), (q12_8, .inl (cY 2, 6, .inr (.inr (.inr (.inr (fun _ => none)))))), (q19_11, .inr (4, [.int 0, .int 0, .int 0, .int 0, .int 0, .int 0, .ref (u23_13 0), .ref (u23_13 1)])), (u23_13 0, .inl (cY 0, 5, .inl (fun _ => 0))), (u23_13 1, .inl (cY 1, 6, .inl (fun _ => 0))), (q42_23, .inr (4, [.int 0, .int 0, .int 0, .int 0, .int 0, .int 0, .ref (u46_25 0), .ref (u46_25 1)])), (u46_25 0, .inl (cY 0, 5, .inl (fun _ => 0))), (u46_25 1, .inl (cY 1, 6, .inl (fun _ => 0)))] H := hP1
  have hD : va_D A [(h0, .inr (5, [.int 0, .ref q12_8, .ref q19_11])), (q12_8, .inl (cY 2, 6, .inr (.inr (.inr (.inr (fun _ => none)))))), (q19_11, .inr (4, [.int 0, .int 0, .int 0, .int 0, .int 0, .int 0, .ref (u23_13 0), .ref (u23_13 1)])), (u23_13 0, .inl (cY 0, 5, .inl (fun _ => 0))), (u23_13 1, .inl (cY 1, 6, .inl (fun _ => 0))), (q42_23, .inr (4, [.int 0, .int 0, .int 0, .int 0, .int 0, .int 0, .ref (u46_25 0), .ref (u46_25 1)])), (u46_25 0, .inl (cY 0, 5, .inl (fun _ => 0))), (u46_25 1, .inl (cY 1, 6, .inl (fun _ => 0)))] := hD1
  have hS := hS1
  clear hP1 hD1 hS1
  refine W.widen (k := 7) (n := 44) (Nat.le_of_ble_eq_true rfl) (Nat.le_of_ble_eq_true rfl) ?_
  refine va_astq hx hb hK hP hD hS 1 2 5 4 rfl rfl rfl rfl (vin rfl) dX5_init_49 (fun H locs hP1 hD1 hS1 => ?_)
  clear hP hD hS
  have hP : va_P (dC, dI) vwCl [(h0, .inr (5, [.int 0, .ref q12_8, .ref q19_11])), (q12_8, .inl (cY 2, 6, .inr (.inr (.inr (.inr (va_up (fun _ => none) (0 : Int32).toNatClampNeg (some q42_23))))))), (q19_11, .inr (4, [.int 0, .int 0, .int 0, .int 0, .int 0, .int 0, .ref (u23_13 0), .ref (u23_13 1)])), (u23_13 0, .inl (cY 0, 5, .inl (fun _ => 0))), (u23_13 1, .inl (cY 1, 6, .inl (fun _ => 0))), (q42_23, .inr (4, [.int 0, .int 0, .int 0, .int 0, .int 0, .int 0, .ref (u46_25 0), .ref (u46_25 1)])), (u46_25 0, .inl (cY 0, 5, .inl (fun _ => 0))), (u46_25 1, .inl (cY 1, 6, .inl (fun _ => 0)))] H := hP1
  have hD : va_D A [(h0, .inr (5, [.int 0, .ref q12_8, .ref q19_11])), (q12_8, .inl (cY 2, 6, .inr (.inr (.inr (.inr (va_up (fun _ => none) (0 : Int32).toNatClampNeg (some q42_23))))))), (q19_11, .inr (4, [.int 0, .int 0, .int 0, .int 0, .int 0, .int 0, .ref (u23_13 0), .ref (u23_13 1)])), (u23_13 0, .inl (cY 0, 5, .inl (fun _ => 0))), (u23_13 1, .inl (cY 1, 6, .inl (fun _ => 0))), (q42_23, .inr (4, [.int 0, .int 0, .int 0, .int 0, .int 0, .int 0, .ref (u46_25 0), .ref (u46_25 1)])), (u46_25 0, .inl (cY 0, 5, .inl (fun _ => 0))), (u46_25 1, .inl (cY 1, 6, .inl (fun _ => 0)))] := hD1
  have hS := hS1
  clear hP1 hD1 hS1
  refine lv_iinc (v := 1) (lv' := [(1, .int 1), (0, .ref h0)]) hx hb dX5_init_50 hl (k := 0) rfl (by first | rfl | decide) (by decide) rfl (fun ls hl => ?_)
  refine lv_goto (tgt := 31) hx hb dX5_init_53 (by decide) ?_
  refine lv_iload_n hx hb dX5_init_31 rfl (lv_at hl 0 rfl) ?_
  refine lv_bipush (v := 6) hx hb dX5_init_32 (by decide) ?_
  refine lv_icmp_ge (tgt := 56) hx hb dX5_init_34 (by decide) (fun c_31 => ?_) (fun c_31 => ?_)
  · exact absurd c_31 (by decide)
  refine lv_aload_n hx hb dX5_init_37 rfl (lv_at hl 1 rfl) ?_
  refine va_get (D := (dC, dI)) (ci := 5) (v := .ref q12_8) (C := RX5) (T := TX5) (N := 3) hx hb hts inw_X5_init_X5 hown hK hP 0 rfl rfl 1 (by decide) (hts (.fieldLink RX5 17 "DuelFrames$MoveList" "row" "[LDuelFrames$Move;") (List.mem_of_getElem? (i := 6) rfl)) (fun _ h9 => h9) rfl dX5_init_38 ?_
  refine lv_iload_n hx hb dX5_init_41 rfl (lv_at hl 0 rfl) ?_
  refine va_new (D := (dC, dI)) (ci := 4) (fs := [.int 0, .int 0, .int 0, .int 0, .int 0, .int 0, .null, .null]) (C := RX4) (T := TX4) (N := 8) hx hb hts inw_X5_init_X4 tyX4 tyX4_ok hown (hts (.classLink RX5 15 RX4) (List.mem_of_getElem? (i := 5) rfl)) (hts (.instantiable RX4 8) (List.mem_of_getElem? (i := 7) rfl)) (hts (.initialized RX4) (List.mem_of_getElem? (i := 8) rfl)) hK hP hD hS hA rfl (fun j hj => by rcases (show j = 0 ∨ j = 1 ∨ j = 2 ∨ j = 3 ∨ j = 4 ∨ j = 5 ∨ j = 6 ∨ j = 7 by omega) with rfl | rfl | rfl | rfl | rfl | rfl | rfl | rfl <;> rfl) (Nat.le_of_ble_eq_true rfl) (Nat.le_of_ble_eq_true rfl) dX5_init_42 (fun q42_35 H hP1 hD1 hS1 => ?_)
  clear hP hD hS
  have hP : va_P (dC, dI) vwCl [(h0, .inr (5, [.int 0, .ref q12_8, .ref q19_11])), (q12_8, .inl (cY 2, 6, .inr (.inr (.inr (.inr (va_up (fun _ => none) (0 : Int32).toNatClampNeg (some q42_23))))))), (q19_11, .inr (4, [.int 0, .int 0, .int 0, .int 0, .int 0, .int 0, .ref (u23_13 0), .ref (u23_13 1)])), (u23_13 0, .inl (cY 0, 5, .inl (fun _ => 0))), (u23_13 1, .inl (cY 1, 6, .inl (fun _ => 0))), (q42_23, .inr (4, [.int 0, .int 0, .int 0, .int 0, .int 0, .int 0, .ref (u46_25 0), .ref (u46_25 1)])), (u46_25 0, .inl (cY 0, 5, .inl (fun _ => 0))), (u46_25 1, .inl (cY 1, 6, .inl (fun _ => 0))), (q42_35, .inr (4, [.int 0, .int 0, .int 0, .int 0, .int 0, .int 0, .null, .null]))] H := hP1
  have hD : va_D A [(h0, .inr (5, [.int 0, .ref q12_8, .ref q19_11])), (q12_8, .inl (cY 2, 6, .inr (.inr (.inr (.inr (va_up (fun _ => none) (0 : Int32).toNatClampNeg (some q42_23))))))), (q19_11, .inr (4, [.int 0, .int 0, .int 0, .int 0, .int 0, .int 0, .ref (u23_13 0), .ref (u23_13 1)])), (u23_13 0, .inl (cY 0, 5, .inl (fun _ => 0))), (u23_13 1, .inl (cY 1, 6, .inl (fun _ => 0))), (q42_23, .inr (4, [.int 0, .int 0, .int 0, .int 0, .int 0, .int 0, .ref (u46_25 0), .ref (u46_25 1)])), (u46_25 0, .inl (cY 0, 5, .inl (fun _ => 0))), (u46_25 1, .inl (cY 1, 6, .inl (fun _ => 0))), (q42_35, .inr (4, [.int 0, .int 0, .int 0, .int 0, .int 0, .int 0, .null, .null]))] := hD1
  have hS := hS1
  clear hP1 hD1 hS1
  refine W.widen (k := 8) (n := 52) (Nat.le_of_ble_eq_true rfl) (Nat.le_of_ble_eq_true rfl) ?_
  refine lv_dup hx hb dX5_init_45 rfl ?_
  have hPc := hP.sub (ws' := [(q42_35, .inr (4, [.int 0, .int 0, .int 0, .int 0, .int 0, .int 0, .null, .null]))]) [8] rfl
  have hDc := hD.sub (ws' := [(q42_35, .inr (4, [.int 0, .int 0, .int 0, .int 0, .int 0, .int 0, .null, .null]))]) [8] (by decide) rfl
  have hFc := va_free (wc := [(q42_35, .inr (4, [.int 0, .int 0, .int 0, .int 0, .int 0, .int 0, .null, .null]))]) hD hS hA [8] rfl
  refine va_callv (va_runIN (As := []) (rest := [.ref q42_35, .int 1, .ref q12_8]) ⟨hx, hb, hml, hown, hts⟩ (c_X4_init l dC dI cY q42_35 H.size) ⟨va_cnB 0 hts gX5_init_X4_init_n21 rfl rfl rfl hN.2.2.1 (hts (.initialized RX4) (List.mem_of_getElem? (i := 8) rfl)) (by decide +kernel) ⟨(Nat.le_of_ble_eq_true rfl), (Nat.le_of_ble_eq_true rfl)⟩, rfl, (hts (.instanceMethod yX4_init) (List.mem_of_getElem? (i := 10) rfl))⟩ ⟨blindW, fun U hU hW => ⟨rfl, wPre_of hPc hK hN hDc U hU hW⟩⟩ rfl rfl hl.1 rfl (lv_room (Nat.le_of_ble_eq_true rfl)) dX5_init_46 ⟨(Nat.le_of_ble_eq_true rfl), (Nat.le_of_ble_eq_true rfl)⟩) hS (fun q _ h => hFc q h) hFc (fun u46_37 t H1 locs ht hvm hw hB hz1 hk1 hS1 => ?_)
  have hJ := wJoin (wr := [(h0, .inr (5, [.int 0, .ref q12_8, .ref q19_11])), (q12_8, .inl (cY 2, 6, .inr (.inr (.inr (.inr (va_up (fun _ => none) (0 : Int32).toNatClampNeg (some q42_23))))))), (q19_11, .inr (4, [.int 0, .int 0, .int 0, .int 0, .int 0, .int 0, .ref (u23_13 0), .ref (u23_13 1)])), (u23_13 0, .inl (cY 0, 5, .inl (fun _ => 0))), (u23_13 1, .inl (cY 1, 6, .inl (fun _ => 0))), (q42_23, .inr (4, [.int 0, .int 0, .int 0, .int 0, .int 0, .int 0, .ref (u46_25 0), .ref (u46_25 1)])), (u46_25 0, .inl (cY 0, 5, .inl (fun _ => 0))), (u46_25 1, .inl (cY 1, 6, .inl (fun _ => 0)))]) (w1 := [(q42_35, .inr (4, [.int 0, .int 0, .int 0, .int 0, .int 0, .int 0, .ref (u46_37 0), .ref (u46_37 1)])), (u46_37 0, .inl (cY 0, 5, .inl (fun _ => 0))), (u46_37 1, .inl (cY 1, 6, .inl (fun _ => 0)))]) (wn := [(h0, .inr (5, [.int 0, .ref q12_8, .ref q19_11])), (q12_8, .inl (cY 2, 6, .inr (.inr (.inr (.inr (va_up (fun _ => none) (0 : Int32).toNatClampNeg (some q42_23))))))), (q19_11, .inr (4, [.int 0, .int 0, .int 0, .int 0, .int 0, .int 0, .ref (u23_13 0), .ref (u23_13 1)])), (u23_13 0, .inl (cY 0, 5, .inl (fun _ => 0))), (u23_13 1, .inl (cY 1, 6, .inl (fun _ => 0))), (q42_23, .inr (4, [.int 0, .int 0, .int 0, .int 0, .int 0, .int 0, .ref (u46_25 0), .ref (u46_25 1)])), (u46_25 0, .inl (cY 0, 5, .inl (fun _ => 0))), (u46_25 1, .inl (cY 1, 6, .inl (fun _ => 0))), (q42_35, .inr (4, [.int 0, .int 0, .int 0, .int 0, .int 0, .int 0, .ref (u46_37 0), .ref (u46_37 1)])), (u46_37 0, .inl (cY 0, 5, .inl (fun _ => 0))), (u46_37 1, .inl (cY 1, 6, .inl (fun _ => 0)))]) hP hD [8] [0, 1, 2, 3, 4, 5, 6, 7] rfl rfl (by decide +kernel) (by decide +kernel) hk1 hFc hB ht [0, 1, 2, 3, 4, 5, 6, 7, 8, 9, 10] rfl (by decide +kernel)
  clear hB hk1 hFc hPc hDc hP hD hS hz1 hvm ht t
  obtain ⟨hP1, hD1⟩ := hJ
  generalize H1 = H at hP1 hS1 ⊢
  have hP : va_P (dC, dI) vwCl [(h0, .inr (5, [.int 0, .ref q12_8, .ref q19_11])), (q12_8, .inl (cY 2, 6, .inr (.inr (.inr (.inr (va_up (fun _ => none) (0 : Int32).toNatClampNeg (some q42_23))))))), (q19_11, .inr (4, [.int 0, .int 0, .int 0, .int 0, .int 0, .int 0, .ref (u23_13 0), .ref (u23_13 1)])), (u23_13 0, .inl (cY 0, 5, .inl (fun _ => 0))), (u23_13 1, .inl (cY 1, 6, .inl (fun _ => 0))), (q42_23, .inr (4, [.int 0, .int 0, .int 0, .int 0, .int 0, .int 0, .ref (u46_25 0), .ref (u46_25 1)])), (u46_25 0, .inl (cY 0, 5, .inl (fun _ => 0))), (u46_25 1, .inl (cY 1, 6, .inl (fun _ => 0))), (q42_35, .inr (4, [.int 0, .int 0, .int 0, .int 0, .int 0, .int 0, .ref (u46_37 0), .ref (u46_37 1)])), (u46_37 0, .inl (cY 0, 5, .inl (fun _ => 0))), (u46_37 1, .inl (cY 1, 6, .inl (fun _ => 0)))] H := hP1
  have hD : va_D A [(h0, .inr (5, [.int 0, .ref q12_8, .ref q19_11])), (q12_8, .inl (cY 2, 6, .inr (.inr (.inr (.inr (va_up (fun _ => none) (0 : Int32).toNatClampNeg (some q42_23))))))), (q19_11, .inr (4, [.int 0, .int 0, .int 0, .int 0, .int 0, .int 0, .ref (u23_13 0), .ref (u23_13 1)])), (u23_13 0, .inl (cY 0, 5, .inl (fun _ => 0))), (u23_13 1, .inl (cY 1, 6, .inl (fun _ => 0))), (q42_23, .inr (4, [.int 0, .int 0, .int 0, .int 0, .int 0, .int 0, .ref (u46_25 0), .ref (u46_25 1)])), (u46_25 0, .inl (cY 0, 5, .inl (fun _ => 0))), (u46_25 1, .inl (cY 1, 6, .inl (fun _ => 0))), (q42_35, .inr (4, [.int 0, .int 0, .int 0, .int 0, .int 0, .int 0, .ref (u46_37 0), .ref (u46_37 1)])), (u46_37 0, .inl (cY 0, 5, .inl (fun _ => 0))), (u46_37 1, .inl (cY 1, 6, .inl (fun _ => 0)))] := hD1
  have hS := hS1
  clear hP1 hD1 hS1
  refine W.widen (k := 10) (n := 63) (Nat.le_of_ble_eq_true rfl) (Nat.le_of_ble_eq_true rfl) ?_
  refine va_astq hx hb hK hP hD hS 1 2 8 4 rfl rfl rfl rfl (vin rfl) dX5_init_49 (fun H locs hP1 hD1 hS1 => ?_)
  clear hP hD hS
  have hP : va_P (dC, dI) vwCl [(h0, .inr (5, [.int 0, .ref q12_8, .ref q19_11])), (q12_8, .inl (cY 2, 6, .inr (.inr (.inr (.inr (va_up (va_up (fun _ => none) (0 : Int32).toNatClampNeg (some q42_23)) (1 : Int32).toNatClampNeg (some q42_35))))))), (q19_11, .inr (4, [.int 0, .int 0, .int 0, .int 0, .int 0, .int 0, .ref (u23_13 0), .ref (u23_13 1)])), (u23_13 0, .inl (cY 0, 5, .inl (fun _ => 0))), (u23_13 1, .inl (cY 1, 6, .inl (fun _ => 0))), (q42_23, .inr (4, [.int 0, .int 0, .int 0, .int 0, .int 0, .int 0, .ref (u46_25 0), .ref (u46_25 1)])), (u46_25 0, .inl (cY 0, 5, .inl (fun _ => 0))), (u46_25 1, .inl (cY 1, 6, .inl (fun _ => 0))), (q42_35, .inr (4, [.int 0, .int 0, .int 0, .int 0, .int 0, .int 0, .ref (u46_37 0), .ref (u46_37 1)])), (u46_37 0, .inl (cY 0, 5, .inl (fun _ => 0))), (u46_37 1, .inl (cY 1, 6, .inl (fun _ => 0)))] H := hP1
  have hD : va_D A [(h0, .inr (5, [.int 0, .ref q12_8, .ref q19_11])), (q12_8, .inl (cY 2, 6, .inr (.inr (.inr (.inr (va_up (va_up (fun _ => none) (0 : Int32).toNatClampNeg (some q42_23)) (1 : Int32).toNatClampNeg (some q42_35))))))), (q19_11, .inr (4, [.int 0, .int 0, .int 0, .int 0, .int 0, .int 0, .ref (u23_13 0), .ref (u23_13 1)])), (u23_13 0, .inl (cY 0, 5, .inl (fun _ => 0))), (u23_13 1, .inl (cY 1, 6, .inl (fun _ => 0))), (q42_23, .inr (4, [.int 0, .int 0, .int 0, .int 0, .int 0, .int 0, .ref (u46_25 0), .ref (u46_25 1)])), (u46_25 0, .inl (cY 0, 5, .inl (fun _ => 0))), (u46_25 1, .inl (cY 1, 6, .inl (fun _ => 0))), (q42_35, .inr (4, [.int 0, .int 0, .int 0, .int 0, .int 0, .int 0, .ref (u46_37 0), .ref (u46_37 1)])), (u46_37 0, .inl (cY 0, 5, .inl (fun _ => 0))), (u46_37 1, .inl (cY 1, 6, .inl (fun _ => 0)))] := hD1
  have hS := hS1
  clear hP1 hD1 hS1
  refine lv_iinc (v := 2) (lv' := [(1, .int 2), (0, .ref h0)]) hx hb dX5_init_50 hl (k := 0) rfl (by first | rfl | decide) (by decide) rfl (fun ls hl => ?_)
  refine lv_goto (tgt := 31) hx hb dX5_init_53 (by decide) ?_
  refine lv_iload_n hx hb dX5_init_31 rfl (lv_at hl 0 rfl) ?_
  refine lv_bipush (v := 6) hx hb dX5_init_32 (by decide) ?_
  refine lv_icmp_ge (tgt := 56) hx hb dX5_init_34 (by decide) (fun c_43 => ?_) (fun c_43 => ?_)
  · exact absurd c_43 (by decide)
  refine lv_aload_n hx hb dX5_init_37 rfl (lv_at hl 1 rfl) ?_
  refine va_get (D := (dC, dI)) (ci := 5) (v := .ref q12_8) (C := RX5) (T := TX5) (N := 3) hx hb hts inw_X5_init_X5 hown hK hP 0 rfl rfl 1 (by decide) (hts (.fieldLink RX5 17 "DuelFrames$MoveList" "row" "[LDuelFrames$Move;") (List.mem_of_getElem? (i := 6) rfl)) (fun _ h9 => h9) rfl dX5_init_38 ?_
  refine lv_iload_n hx hb dX5_init_41 rfl (lv_at hl 0 rfl) ?_
  refine va_new (D := (dC, dI)) (ci := 4) (fs := [.int 0, .int 0, .int 0, .int 0, .int 0, .int 0, .null, .null]) (C := RX4) (T := TX4) (N := 8) hx hb hts inw_X5_init_X4 tyX4 tyX4_ok hown (hts (.classLink RX5 15 RX4) (List.mem_of_getElem? (i := 5) rfl)) (hts (.instantiable RX4 8) (List.mem_of_getElem? (i := 7) rfl)) (hts (.initialized RX4) (List.mem_of_getElem? (i := 8) rfl)) hK hP hD hS hA rfl (fun j hj => by rcases (show j = 0 ∨ j = 1 ∨ j = 2 ∨ j = 3 ∨ j = 4 ∨ j = 5 ∨ j = 6 ∨ j = 7 by omega) with rfl | rfl | rfl | rfl | rfl | rfl | rfl | rfl <;> rfl) (Nat.le_of_ble_eq_true rfl) (Nat.le_of_ble_eq_true rfl) dX5_init_42 (fun q42_47 H hP1 hD1 hS1 => ?_)
  clear hP hD hS
  have hP : va_P (dC, dI) vwCl [(h0, .inr (5, [.int 0, .ref q12_8, .ref q19_11])), (q12_8, .inl (cY 2, 6, .inr (.inr (.inr (.inr (va_up (va_up (fun _ => none) (0 : Int32).toNatClampNeg (some q42_23)) (1 : Int32).toNatClampNeg (some q42_35))))))), (q19_11, .inr (4, [.int 0, .int 0, .int 0, .int 0, .int 0, .int 0, .ref (u23_13 0), .ref (u23_13 1)])), (u23_13 0, .inl (cY 0, 5, .inl (fun _ => 0))), (u23_13 1, .inl (cY 1, 6, .inl (fun _ => 0))), (q42_23, .inr (4, [.int 0, .int 0, .int 0, .int 0, .int 0, .int 0, .ref (u46_25 0), .ref (u46_25 1)])), (u46_25 0, .inl (cY 0, 5, .inl (fun _ => 0))), (u46_25 1, .inl (cY 1, 6, .inl (fun _ => 0))), (q42_35, .inr (4, [.int 0, .int 0, .int 0, .int 0, .int 0, .int 0, .ref (u46_37 0), .ref (u46_37 1)])), (u46_37 0, .inl (cY 0, 5, .inl (fun _ => 0))), (u46_37 1, .inl (cY 1, 6, .inl (fun _ => 0))), (q42_47, .inr (4, [.int 0, .int 0, .int 0, .int 0, .int 0, .int 0, .null, .null]))] H := hP1
  have hD : va_D A [(h0, .inr (5, [.int 0, .ref q12_8, .ref q19_11])), (q12_8, .inl (cY 2, 6, .inr (.inr (.inr (.inr (va_up (va_up (fun _ => none) (0 : Int32).toNatClampNeg (some q42_23)) (1 : Int32).toNatClampNeg (some q42_35))))))), (q19_11, .inr (4, [.int 0, .int 0, .int 0, .int 0, .int 0, .int 0, .ref (u23_13 0), .ref (u23_13 1)])), (u23_13 0, .inl (cY 0, 5, .inl (fun _ => 0))), (u23_13 1, .inl (cY 1, 6, .inl (fun _ => 0))), (q42_23, .inr (4, [.int 0, .int 0, .int 0, .int 0, .int 0, .int 0, .ref (u46_25 0), .ref (u46_25 1)])), (u46_25 0, .inl (cY 0, 5, .inl (fun _ => 0))), (u46_25 1, .inl (cY 1, 6, .inl (fun _ => 0))), (q42_35, .inr (4, [.int 0, .int 0, .int 0, .int 0, .int 0, .int 0, .ref (u46_37 0), .ref (u46_37 1)])), (u46_37 0, .inl (cY 0, 5, .inl (fun _ => 0))), (u46_37 1, .inl (cY 1, 6, .inl (fun _ => 0))), (q42_47, .inr (4, [.int 0, .int 0, .int 0, .int 0, .int 0, .int 0, .null, .null]))] := hD1
  have hS := hS1
  clear hP1 hD1 hS1
  refine W.widen (k := 11) (n := 71) (Nat.le_of_ble_eq_true rfl) (Nat.le_of_ble_eq_true rfl) ?_
  refine lv_dup hx hb dX5_init_45 rfl ?_
  have hPc := hP.sub (ws' := [(q42_47, .inr (4, [.int 0, .int 0, .int 0, .int 0, .int 0, .int 0, .null, .null]))]) [11] rfl
  have hDc := hD.sub (ws' := [(q42_47, .inr (4, [.int 0, .int 0, .int 0, .int 0, .int 0, .int 0, .null, .null]))]) [11] (by decide) rfl
  have hFc := va_free (wc := [(q42_47, .inr (4, [.int 0, .int 0, .int 0, .int 0, .int 0, .int 0, .null, .null]))]) hD hS hA [11] rfl
  refine va_callv (va_runIN (As := []) (rest := [.ref q42_47, .int 2, .ref q12_8]) ⟨hx, hb, hml, hown, hts⟩ (c_X4_init l dC dI cY q42_47 H.size) ⟨va_cnB 0 hts gX5_init_X4_init_n21 rfl rfl rfl hN.2.2.1 (hts (.initialized RX4) (List.mem_of_getElem? (i := 8) rfl)) (by decide +kernel) ⟨(Nat.le_of_ble_eq_true rfl), (Nat.le_of_ble_eq_true rfl)⟩, rfl, (hts (.instanceMethod yX4_init) (List.mem_of_getElem? (i := 10) rfl))⟩ ⟨blindW, fun U hU hW => ⟨rfl, wPre_of hPc hK hN hDc U hU hW⟩⟩ rfl rfl hl.1 rfl (lv_room (Nat.le_of_ble_eq_true rfl)) dX5_init_46 ⟨(Nat.le_of_ble_eq_true rfl), (Nat.le_of_ble_eq_true rfl)⟩) hS (fun q _ h => hFc q h) hFc (fun u46_49 t H1 locs ht hvm hw hB hz1 hk1 hS1 => ?_)
  have hJ := wJoin (wr := [(h0, .inr (5, [.int 0, .ref q12_8, .ref q19_11])), (q12_8, .inl (cY 2, 6, .inr (.inr (.inr (.inr (va_up (va_up (fun _ => none) (0 : Int32).toNatClampNeg (some q42_23)) (1 : Int32).toNatClampNeg (some q42_35))))))), (q19_11, .inr (4, [.int 0, .int 0, .int 0, .int 0, .int 0, .int 0, .ref (u23_13 0), .ref (u23_13 1)])), (u23_13 0, .inl (cY 0, 5, .inl (fun _ => 0))), (u23_13 1, .inl (cY 1, 6, .inl (fun _ => 0))), (q42_23, .inr (4, [.int 0, .int 0, .int 0, .int 0, .int 0, .int 0, .ref (u46_25 0), .ref (u46_25 1)])), (u46_25 0, .inl (cY 0, 5, .inl (fun _ => 0))), (u46_25 1, .inl (cY 1, 6, .inl (fun _ => 0))), (q42_35, .inr (4, [.int 0, .int 0, .int 0, .int 0, .int 0, .int 0, .ref (u46_37 0), .ref (u46_37 1)])), (u46_37 0, .inl (cY 0, 5, .inl (fun _ => 0))), (u46_37 1, .inl (cY 1, 6, .inl (fun _ => 0)))]) (w1 := [(q42_47, .inr (4, [.int 0, .int 0, .int 0, .int 0, .int 0, .int 0, .ref (u46_49 0), .ref (u46_49 1)])), (u46_49 0, .inl (cY 0, 5, .inl (fun _ => 0))), (u46_49 1, .inl (cY 1, 6, .inl (fun _ => 0)))]) (wn := [(h0, .inr (5, [.int 0, .ref q12_8, .ref q19_11])), (q12_8, .inl (cY 2, 6, .inr (.inr (.inr (.inr (va_up (va_up (fun _ => none) (0 : Int32).toNatClampNeg (some q42_23)) (1 : Int32).toNatClampNeg (some q42_35))))))), (q19_11, .inr (4, [.int 0, .int 0, .int 0, .int 0, .int 0, .int 0, .ref (u23_13 0), .ref (u23_13 1)])), (u23_13 0, .inl (cY 0, 5, .inl (fun _ => 0))), (u23_13 1, .inl (cY 1, 6, .inl (fun _ => 0))), (q42_23, .inr (4, [.int 0, .int 0, .int 0, .int 0, .int 0, .int 0, .ref (u46_25 0), .ref (u46_25 1)])), (u46_25 0, .inl (cY 0, 5, .inl (fun _ => 0))), (u46_25 1, .inl (cY 1, 6, .inl (fun _ => 0))), (q42_35, .inr (4, [.int 0, .int 0, .int 0, .int 0, .int 0, .int 0, .ref (u46_37 0), .ref (u46_37 1)])), (u46_37 0, .inl (cY 0, 5, .inl (fun _ => 0))), (u46_37 1, .inl (cY 1, 6, .inl (fun _ => 0))), (q42_47, .inr (4, [.int 0, .int 0, .int 0, .int 0, .int 0, .int 0, .ref (u46_49 0), .ref (u46_49 1)])), (u46_49 0, .inl (cY 0, 5, .inl (fun _ => 0))), (u46_49 1, .inl (cY 1, 6, .inl (fun _ => 0)))]) hP hD [11] [0, 1, 2, 3, 4, 5, 6, 7, 8, 9, 10] rfl rfl (by decide +kernel) (by decide +kernel) hk1 hFc hB ht [0, 1, 2, 3, 4, 5, 6, 7, 8, 9, 10, 11, 12, 13] rfl (by decide +kernel)
  clear hB hk1 hFc hPc hDc hP hD hS hz1 hvm ht t
  obtain ⟨hP1, hD1⟩ := hJ
  generalize H1 = H at hP1 hS1 ⊢
  have hP : va_P (dC, dI) vwCl [(h0, .inr (5, [.int 0, .ref q12_8, .ref q19_11])), (q12_8, .inl (cY 2, 6, .inr (.inr (.inr (.inr (va_up (va_up (fun _ => none) (0 : Int32).toNatClampNeg (some q42_23)) (1 : Int32).toNatClampNeg (some q42_35))))))), (q19_11, .inr (4, [.int 0, .int 0, .int 0, .int 0, .int 0, .int 0, .ref (u23_13 0), .ref (u23_13 1)])), (u23_13 0, .inl (cY 0, 5, .inl (fun _ => 0))), (u23_13 1, .inl (cY 1, 6, .inl (fun _ => 0))), (q42_23, .inr (4, [.int 0, .int 0, .int 0, .int 0, .int 0, .int 0, .ref (u46_25 0), .ref (u46_25 1)])), (u46_25 0, .inl (cY 0, 5, .inl (fun _ => 0))), (u46_25 1, .inl (cY 1, 6, .inl (fun _ => 0))), (q42_35, .inr (4, [.int 0, .int 0, .int 0, .int 0, .int 0, .int 0, .ref (u46_37 0), .ref (u46_37 1)])), (u46_37 0, .inl (cY 0, 5, .inl (fun _ => 0))), (u46_37 1, .inl (cY 1, 6, .inl (fun _ => 0))), (q42_47, .inr (4, [.int 0, .int 0, .int 0, .int 0, .int 0, .int 0, .ref (u46_49 0), .ref (u46_49 1)])), (u46_49 0, .inl (cY 0, 5, .inl (fun _ => 0))), (u46_49 1, .inl (cY 1, 6, .inl (fun _ => 0)))] H := hP1
  have hD : va_D A [(h0, .inr (5, [.int 0, .ref q12_8, .ref q19_11])), (q12_8, .inl (cY 2, 6, .inr (.inr (.inr (.inr (va_up (va_up (fun _ => none) (0 : Int32).toNatClampNeg (some q42_23)) (1 : Int32).toNatClampNeg (some q42_35))))))), (q19_11, .inr (4, [.int 0, .int 0, .int 0, .int 0, .int 0, .int 0, .ref (u23_13 0), .ref (u23_13 1)])), (u23_13 0, .inl (cY 0, 5, .inl (fun _ => 0))), (u23_13 1, .inl (cY 1, 6, .inl (fun _ => 0))), (q42_23, .inr (4, [.int 0, .int 0, .int 0, .int 0, .int 0, .int 0, .ref (u46_25 0), .ref (u46_25 1)])), (u46_25 0, .inl (cY 0, 5, .inl (fun _ => 0))), (u46_25 1, .inl (cY 1, 6, .inl (fun _ => 0))), (q42_35, .inr (4, [.int 0, .int 0, .int 0, .int 0, .int 0, .int 0, .ref (u46_37 0), .ref (u46_37 1)])), (u46_37 0, .inl (cY 0, 5, .inl (fun _ => 0))), (u46_37 1, .inl (cY 1, 6, .inl (fun _ => 0))), (q42_47, .inr (4, [.int 0, .int 0, .int 0, .int 0, .int 0, .int 0, .ref (u46_49 0), .ref (u46_49 1)])), (u46_49 0, .inl (cY 0, 5, .inl (fun _ => 0))), (u46_49 1, .inl (cY 1, 6, .inl (fun _ => 0)))] := hD1
  have hS := hS1
  clear hP1 hD1 hS1
  refine W.widen (k := 13) (n := 82) (Nat.le_of_ble_eq_true rfl) (Nat.le_of_ble_eq_true rfl) ?_
  refine va_astq hx hb hK hP hD hS 1 2 11 4 rfl rfl rfl rfl (vin rfl) dX5_init_49 (fun H locs hP1 hD1 hS1 => ?_)
  clear hP hD hS
  have hP : va_P (dC, dI) vwCl [(h0, .inr (5, [.int 0, .ref q12_8, .ref q19_11])), (q12_8, .inl (cY 2, 6, .inr (.inr (.inr (.inr (va_up (va_up (va_up (fun _ => none) (0 : Int32).toNatClampNeg (some q42_23)) (1 : Int32).toNatClampNeg (some q42_35)) (2 : Int32).toNatClampNeg (some q42_47))))))), (q19_11, .inr (4, [.int 0, .int 0, .int 0, .int 0, .int 0, .int 0, .ref (u23_13 0), .ref (u23_13 1)])), (u23_13 0, .inl (cY 0, 5, .inl (fun _ => 0))), (u23_13 1, .inl (cY 1, 6, .inl (fun _ => 0))), (q42_23, .inr (4, [.int 0, .int 0, .int 0, .int 0, .int 0, .int 0, .ref (u46_25 0), .ref (u46_25 1)])), (u46_25 0, .inl (cY 0, 5, .inl (fun _ => 0))), (u46_25 1, .inl (cY 1, 6, .inl (fun _ => 0))), (q42_35, .inr (4, [.int 0, .int 0, .int 0, .int 0, .int 0, .int 0, .ref (u46_37 0), .ref (u46_37 1)])), (u46_37 0, .inl (cY 0, 5, .inl (fun _ => 0))), (u46_37 1, .inl (cY 1, 6, .inl (fun _ => 0))), (q42_47, .inr (4, [.int 0, .int 0, .int 0, .int 0, .int 0, .int 0, .ref (u46_49 0), .ref (u46_49 1)])), (u46_49 0, .inl (cY 0, 5, .inl (fun _ => 0))), (u46_49 1, .inl (cY 1, 6, .inl (fun _ => 0)))] H := hP1
  have hD : va_D A [(h0, .inr (5, [.int 0, .ref q12_8, .ref q19_11])), (q12_8, .inl (cY 2, 6, .inr (.inr (.inr (.inr (va_up (va_up (va_up (fun _ => none) (0 : Int32).toNatClampNeg (some q42_23)) (1 : Int32).toNatClampNeg (some q42_35)) (2 : Int32).toNatClampNeg (some q42_47))))))), (q19_11, .inr (4, [.int 0, .int 0, .int 0, .int 0, .int 0, .int 0, .ref (u23_13 0), .ref (u23_13 1)])), (u23_13 0, .inl (cY 0, 5, .inl (fun _ => 0))), (u23_13 1, .inl (cY 1, 6, .inl (fun _ => 0))), (q42_23, .inr (4, [.int 0, .int 0, .int 0, .int 0, .int 0, .int 0, .ref (u46_25 0), .ref (u46_25 1)])), (u46_25 0, .inl (cY 0, 5, .inl (fun _ => 0))), (u46_25 1, .inl (cY 1, 6, .inl (fun _ => 0))), (q42_35, .inr (4, [.int 0, .int 0, .int 0, .int 0, .int 0, .int 0, .ref (u46_37 0), .ref (u46_37 1)])), (u46_37 0, .inl (cY 0, 5, .inl (fun _ => 0))), (u46_37 1, .inl (cY 1, 6, .inl (fun _ => 0))), (q42_47, .inr (4, [.int 0, .int 0, .int 0, .int 0, .int 0, .int 0, .ref (u46_49 0), .ref (u46_49 1)])), (u46_49 0, .inl (cY 0, 5, .inl (fun _ => 0))), (u46_49 1, .inl (cY 1, 6, .inl (fun _ => 0)))] := hD1
  have hS := hS1
  clear hP1 hD1 hS1
  refine lv_iinc (v := 3) (lv' := [(1, .int 3), (0, .ref h0)]) hx hb dX5_init_50 hl (k := 0) rfl (by first | rfl | decide) (by decide) rfl (fun ls hl => ?_)
  refine lv_goto (tgt := 31) hx hb dX5_init_53 (by decide) ?_
  refine lv_iload_n hx hb dX5_init_31 rfl (lv_at hl 0 rfl) ?_
  refine lv_bipush (v := 6) hx hb dX5_init_32 (by decide) ?_
  refine lv_icmp_ge (tgt := 56) hx hb dX5_init_34 (by decide) (fun c_55 => ?_) (fun c_55 => ?_)
  · exact absurd c_55 (by decide)
  refine lv_aload_n hx hb dX5_init_37 rfl (lv_at hl 1 rfl) ?_
  refine va_get (D := (dC, dI)) (ci := 5) (v := .ref q12_8) (C := RX5) (T := TX5) (N := 3) hx hb hts inw_X5_init_X5 hown hK hP 0 rfl rfl 1 (by decide) (hts (.fieldLink RX5 17 "DuelFrames$MoveList" "row" "[LDuelFrames$Move;") (List.mem_of_getElem? (i := 6) rfl)) (fun _ h9 => h9) rfl dX5_init_38 ?_
  refine lv_iload_n hx hb dX5_init_41 rfl (lv_at hl 0 rfl) ?_
  refine va_new (D := (dC, dI)) (ci := 4) (fs := [.int 0, .int 0, .int 0, .int 0, .int 0, .int 0, .null, .null]) (C := RX4) (T := TX4) (N := 8) hx hb hts inw_X5_init_X4 tyX4 tyX4_ok hown (hts (.classLink RX5 15 RX4) (List.mem_of_getElem? (i := 5) rfl)) (hts (.instantiable RX4 8) (List.mem_of_getElem? (i := 7) rfl)) (hts (.initialized RX4) (List.mem_of_getElem? (i := 8) rfl)) hK hP hD hS hA rfl (fun j hj => by rcases (show j = 0 ∨ j = 1 ∨ j = 2 ∨ j = 3 ∨ j = 4 ∨ j = 5 ∨ j = 6 ∨ j = 7 by omega) with rfl | rfl | rfl | rfl | rfl | rfl | rfl | rfl <;> rfl) (Nat.le_of_ble_eq_true rfl) (Nat.le_of_ble_eq_true rfl) dX5_init_42 (fun q42_59 H hP1 hD1 hS1 => ?_)
  clear hP hD hS
  have hP : va_P (dC, dI) vwCl [(h0, .inr (5, [.int 0, .ref q12_8, .ref q19_11])), (q12_8, .inl (cY 2, 6, .inr (.inr (.inr (.inr (va_up (va_up (va_up (fun _ => none) (0 : Int32).toNatClampNeg (some q42_23)) (1 : Int32).toNatClampNeg (some q42_35)) (2 : Int32).toNatClampNeg (some q42_47))))))), (q19_11, .inr (4, [.int 0, .int 0, .int 0, .int 0, .int 0, .int 0, .ref (u23_13 0), .ref (u23_13 1)])), (u23_13 0, .inl (cY 0, 5, .inl (fun _ => 0))), (u23_13 1, .inl (cY 1, 6, .inl (fun _ => 0))), (q42_23, .inr (4, [.int 0, .int 0, .int 0, .int 0, .int 0, .int 0, .ref (u46_25 0), .ref (u46_25 1)])), (u46_25 0, .inl (cY 0, 5, .inl (fun _ => 0))), (u46_25 1, .inl (cY 1, 6, .inl (fun _ => 0))), (q42_35, .inr (4, [.int 0, .int 0, .int 0, .int 0, .int 0, .int 0, .ref (u46_37 0), .ref (u46_37 1)])), (u46_37 0, .inl (cY 0, 5, .inl (fun _ => 0))), (u46_37 1, .inl (cY 1, 6, .inl (fun _ => 0))), (q42_47, .inr (4, [.int 0, .int 0, .int 0, .int 0, .int 0, .int 0, .ref (u46_49 0), .ref (u46_49 1)])), (u46_49 0, .inl (cY 0, 5, .inl (fun _ => 0))), (u46_49 1, .inl (cY 1, 6, .inl (fun _ => 0))), (q42_59, .inr (4, [.int 0, .int 0, .int 0, .int 0, .int 0, .int 0, .null, .null]))] H := hP1
  have hD : va_D A [(h0, .inr (5, [.int 0, .ref q12_8, .ref q19_11])), (q12_8, .inl (cY 2, 6, .inr (.inr (.inr (.inr (va_up (va_up (va_up (fun _ => none) (0 : Int32).toNatClampNeg (some q42_23)) (1 : Int32).toNatClampNeg (some q42_35)) (2 : Int32).toNatClampNeg (some q42_47))))))), (q19_11, .inr (4, [.int 0, .int 0, .int 0, .int 0, .int 0, .int 0, .ref (u23_13 0), .ref (u23_13 1)])), (u23_13 0, .inl (cY 0, 5, .inl (fun _ => 0))), (u23_13 1, .inl (cY 1, 6, .inl (fun _ => 0))), (q42_23, .inr (4, [.int 0, .int 0, .int 0, .int 0, .int 0, .int 0, .ref (u46_25 0), .ref (u46_25 1)])), (u46_25 0, .inl (cY 0, 5, .inl (fun _ => 0))), (u46_25 1, .inl (cY 1, 6, .inl (fun _ => 0))), (q42_35, .inr (4, [.int 0, .int 0, .int 0, .int 0, .int 0, .int 0, .ref (u46_37 0), .ref (u46_37 1)])), (u46_37 0, .inl (cY 0, 5, .inl (fun _ => 0))), (u46_37 1, .inl (cY 1, 6, .inl (fun _ => 0))), (q42_47, .inr (4, [.int 0, .int 0, .int 0, .int 0, .int 0, .int 0, .ref (u46_49 0), .ref (u46_49 1)])), (u46_49 0, .inl (cY 0, 5, .inl (fun _ => 0))), (u46_49 1, .inl (cY 1, 6, .inl (fun _ => 0))), (q42_59, .inr (4, [.int 0, .int 0, .int 0, .int 0, .int 0, .int 0, .null, .null]))] := hD1
  have hS := hS1
  clear hP1 hD1 hS1
  refine W.widen (k := 14) (n := 90) (Nat.le_of_ble_eq_true rfl) (Nat.le_of_ble_eq_true rfl) ?_
  refine lv_dup hx hb dX5_init_45 rfl ?_
  have hPc := hP.sub (ws' := [(q42_59, .inr (4, [.int 0, .int 0, .int 0, .int 0, .int 0, .int 0, .null, .null]))]) [14] rfl
  have hDc := hD.sub (ws' := [(q42_59, .inr (4, [.int 0, .int 0, .int 0, .int 0, .int 0, .int 0, .null, .null]))]) [14] (by decide) rfl
  have hFc := va_free (wc := [(q42_59, .inr (4, [.int 0, .int 0, .int 0, .int 0, .int 0, .int 0, .null, .null]))]) hD hS hA [14] rfl
  refine va_callv (va_runIN (As := []) (rest := [.ref q42_59, .int 3, .ref q12_8]) ⟨hx, hb, hml, hown, hts⟩ (c_X4_init l dC dI cY q42_59 H.size) ⟨va_cnB 0 hts gX5_init_X4_init_n21 rfl rfl rfl hN.2.2.1 (hts (.initialized RX4) (List.mem_of_getElem? (i := 8) rfl)) (by decide +kernel) ⟨(Nat.le_of_ble_eq_true rfl), (Nat.le_of_ble_eq_true rfl)⟩, rfl, (hts (.instanceMethod yX4_init) (List.mem_of_getElem? (i := 10) rfl))⟩ ⟨blindW, fun U hU hW => ⟨rfl, wPre_of hPc hK hN hDc U hU hW⟩⟩ rfl rfl hl.1 rfl (lv_room (Nat.le_of_ble_eq_true rfl)) dX5_init_46 ⟨(Nat.le_of_ble_eq_true rfl), (Nat.le_of_ble_eq_true rfl)⟩) hS (fun q _ h => hFc q h) hFc (fun u46_61 t H1 locs ht hvm hw hB hz1 hk1 hS1 => ?_)
  have hJ := wJoin (wr := [(h0, .inr (5, [.int 0, .ref q12_8, .ref q19_11])), (q12_8, .inl (cY 2, 6, .inr (.inr (.inr (.inr (va_up (va_up (va_up (fun _ => none) (0 : Int32).toNatClampNeg (some q42_23)) (1 : Int32).toNatClampNeg (some q42_35)) (2 : Int32).toNatClampNeg (some q42_47))))))), (q19_11, .inr (4, [.int 0, .int 0, .int 0, .int 0, .int 0, .int 0, .ref (u23_13 0), .ref (u23_13 1)])), (u23_13 0, .inl (cY 0, 5, .inl (fun _ => 0))), (u23_13 1, .inl (cY 1, 6, .inl (fun _ => 0))), (q42_23, .inr (4, [.int 0, .int 0, .int 0, .int 0, .int 0, .int 0, .ref (u46_25 0), .ref (u46_25 1)])), (u46_25 0, .inl (cY 0, 5, .inl (fun _ => 0))), (u46_25 1, .inl (cY 1, 6, .inl (fun _ => 0))), (q42_35, .inr (4, [.int 0, .int 0, .int 0, .int 0, .int 0, .int 0, .ref (u46_37 0), .ref (u46_37 1)])), (u46_37 0, .inl (cY 0, 5, .inl (fun _ => 0))), (u46_37 1, .inl (cY 1, 6, .inl (fun _ => 0))), (q42_47, .inr (4, [.int 0, .int 0, .int 0, .int 0, .int 0, .int 0, .ref (u46_49 0), .ref (u46_49 1)])), (u46_49 0, .inl (cY 0, 5, .inl (fun _ => 0))), (u46_49 1, .inl (cY 1, 6, .inl (fun _ => 0)))]) (w1 := [(q42_59, .inr (4, [.int 0, .int 0, .int 0, .int 0, .int 0, .int 0, .ref (u46_61 0), .ref (u46_61 1)])), (u46_61 0, .inl (cY 0, 5, .inl (fun _ => 0))), (u46_61 1, .inl (cY 1, 6, .inl (fun _ => 0)))]) (wn := [(h0, .inr (5, [.int 0, .ref q12_8, .ref q19_11])), (q12_8, .inl (cY 2, 6, .inr (.inr (.inr (.inr (va_up (va_up (va_up (fun _ => none) (0 : Int32).toNatClampNeg (some q42_23)) (1 : Int32).toNatClampNeg (some q42_35)) (2 : Int32).toNatClampNeg (some q42_47))))))), (q19_11, .inr (4, [.int 0, .int 0, .int 0, .int 0, .int 0, .int 0, .ref (u23_13 0), .ref (u23_13 1)])), (u23_13 0, .inl (cY 0, 5, .inl (fun _ => 0))), (u23_13 1, .inl (cY 1, 6, .inl (fun _ => 0))), (q42_23, .inr (4, [.int 0, .int 0, .int 0, .int 0, .int 0, .int 0, .ref (u46_25 0), .ref (u46_25 1)])), (u46_25 0, .inl (cY 0, 5, .inl (fun _ => 0))), (u46_25 1, .inl (cY 1, 6, .inl (fun _ => 0))), (q42_35, .inr (4, [.int 0, .int 0, .int 0, .int 0, .int 0, .int 0, .ref (u46_37 0), .ref (u46_37 1)])), (u46_37 0, .inl (cY 0, 5, .inl (fun _ => 0))), (u46_37 1, .inl (cY 1, 6, .inl (fun _ => 0))), (q42_47, .inr (4, [.int 0, .int 0, .int 0, .int 0, .int 0, .int 0, .ref (u46_49 0), .ref (u46_49 1)])), (u46_49 0, .inl (cY 0, 5, .inl (fun _ => 0))), (u46_49 1, .inl (cY 1, 6, .inl (fun _ => 0))), (q42_59, .inr (4, [.int 0, .int 0, .int 0, .int 0, .int 0, .int 0, .ref (u46_61 0), .ref (u46_61 1)])), (u46_61 0, .inl (cY 0, 5, .inl (fun _ => 0))), (u46_61 1, .inl (cY 1, 6, .inl (fun _ => 0)))]) hP hD [14] [0, 1, 2, 3, 4, 5, 6, 7, 8, 9, 10, 11, 12, 13] rfl rfl (by decide +kernel) (by decide +kernel) hk1 hFc hB ht [0, 1, 2, 3, 4, 5, 6, 7, 8, 9, 10, 11, 12, 13, 14, 15, 16] rfl (by decide +kernel)
  clear hB hk1 hFc hPc hDc hP hD hS hz1 hvm ht t
  obtain ⟨hP1, hD1⟩ := hJ
  generalize H1 = H at hP1 hS1 ⊢
  have hP : va_P (dC, dI) vwCl [(h0, .inr (5, [.int 0, .ref q12_8, .ref q19_11])), (q12_8, .inl (cY 2, 6, .inr (.inr (.inr (.inr (va_up (va_up (va_up (fun _ => none) (0 : Int32).toNatClampNeg (some q42_23)) (1 : Int32).toNatClampNeg (some q42_35)) (2 : Int32).toNatClampNeg (some q42_47))))))), (q19_11, .inr (4, [.int 0, .int 0, .int 0, .int 0, .int 0, .int 0, .ref (u23_13 0), .ref (u23_13 1)])), (u23_13 0, .inl (cY 0, 5, .inl (fun _ => 0))), (u23_13 1, .inl (cY 1, 6, .inl (fun _ => 0))), (q42_23, .inr (4, [.int 0, .int 0, .int 0, .int 0, .int 0, .int 0, .ref (u46_25 0), .ref (u46_25 1)])), (u46_25 0, .inl (cY 0, 5, .inl (fun _ => 0))), (u46_25 1, .inl (cY 1, 6, .inl (fun _ => 0))), (q42_35, .inr (4, [.int 0, .int 0, .int 0, .int 0, .int 0, .int 0, .ref (u46_37 0), .ref (u46_37 1)])), (u46_37 0, .inl (cY 0, 5, .inl (fun _ => 0))), (u46_37 1, .inl (cY 1, 6, .inl (fun _ => 0))), (q42_47, .inr (4, [.int 0, .int 0, .int 0, .int 0, .int 0, .int 0, .ref (u46_49 0), .ref (u46_49 1)])), (u46_49 0, .inl (cY 0, 5, .inl (fun _ => 0))), (u46_49 1, .inl (cY 1, 6, .inl (fun _ => 0))), (q42_59, .inr (4, [.int 0, .int 0, .int 0, .int 0, .int 0, .int 0, .ref (u46_61 0), .ref (u46_61 1)])), (u46_61 0, .inl (cY 0, 5, .inl (fun _ => 0))), (u46_61 1, .inl (cY 1, 6, .inl (fun _ => 0)))] H := hP1
  have hD : va_D A [(h0, .inr (5, [.int 0, .ref q12_8, .ref q19_11])), (q12_8, .inl (cY 2, 6, .inr (.inr (.inr (.inr (va_up (va_up (va_up (fun _ => none) (0 : Int32).toNatClampNeg (some q42_23)) (1 : Int32).toNatClampNeg (some q42_35)) (2 : Int32).toNatClampNeg (some q42_47))))))), (q19_11, .inr (4, [.int 0, .int 0, .int 0, .int 0, .int 0, .int 0, .ref (u23_13 0), .ref (u23_13 1)])), (u23_13 0, .inl (cY 0, 5, .inl (fun _ => 0))), (u23_13 1, .inl (cY 1, 6, .inl (fun _ => 0))), (q42_23, .inr (4, [.int 0, .int 0, .int 0, .int 0, .int 0, .int 0, .ref (u46_25 0), .ref (u46_25 1)])), (u46_25 0, .inl (cY 0, 5, .inl (fun _ => 0))), (u46_25 1, .inl (cY 1, 6, .inl (fun _ => 0))), (q42_35, .inr (4, [.int 0, .int 0, .int 0, .int 0, .int 0, .int 0, .ref (u46_37 0), .ref (u46_37 1)])), (u46_37 0, .inl (cY 0, 5, .inl (fun _ => 0))), (u46_37 1, .inl (cY 1, 6, .inl (fun _ => 0))), (q42_47, .inr (4, [.int 0, .int 0, .int 0, .int 0, .int 0, .int 0, .ref (u46_49 0), .ref (u46_49 1)])), (u46_49 0, .inl (cY 0, 5, .inl (fun _ => 0))), (u46_49 1, .inl (cY 1, 6, .inl (fun _ => 0))), (q42_59, .inr (4, [.int 0, .int 0, .int 0, .int 0, .int 0, .int 0, .ref (u46_61 0), .ref (u46_61 1)])), (u46_61 0, .inl (cY 0, 5, .inl (fun _ => 0))), (u46_61 1, .inl (cY 1, 6, .inl (fun _ => 0)))] := hD1
  have hS := hS1
  clear hP1 hD1 hS1
  refine W.widen (k := 16) (n := 101) (Nat.le_of_ble_eq_true rfl) (Nat.le_of_ble_eq_true rfl) ?_
  refine va_astq hx hb hK hP hD hS 1 2 14 4 rfl rfl rfl rfl (vin rfl) dX5_init_49 (fun H locs hP1 hD1 hS1 => ?_)
  clear hP hD hS
  have hP : va_P (dC, dI) vwCl [(h0, .inr (5, [.int 0, .ref q12_8, .ref q19_11])), (q12_8, .inl (cY 2, 6, .inr (.inr (.inr (.inr (va_up (va_up (va_up (va_up (fun _ => none) (0 : Int32).toNatClampNeg (some q42_23)) (1 : Int32).toNatClampNeg (some q42_35)) (2 : Int32).toNatClampNeg (some q42_47)) (3 : Int32).toNatClampNeg (some q42_59))))))), (q19_11, .inr (4, [.int 0, .int 0, .int 0, .int 0, .int 0, .int 0, .ref (u23_13 0), .ref (u23_13 1)])), (u23_13 0, .inl (cY 0, 5, .inl (fun _ => 0))), (u23_13 1, .inl (cY 1, 6, .inl (fun _ => 0))), (q42_23, .inr (4, [.int 0, .int 0, .int 0, .int 0, .int 0, .int 0, .ref (u46_25 0), .ref (u46_25 1)])), (u46_25 0, .inl (cY 0, 5, .inl (fun _ => 0))), (u46_25 1, .inl (cY 1, 6, .inl (fun _ => 0))), (q42_35, .inr (4, [.int 0, .int 0, .int 0, .int 0, .int 0, .int 0, .ref (u46_37 0), .ref (u46_37 1)])), (u46_37 0, .inl (cY 0, 5, .inl (fun _ => 0))), (u46_37 1, .inl (cY 1, 6, .inl (fun _ => 0))), (q42_47, .inr (4, [.int 0, .int 0, .int 0, .int 0, .int 0, .int 0, .ref (u46_49 0), .ref (u46_49 1)])), (u46_49 0, .inl (cY 0, 5, .inl (fun _ => 0))), (u46_49 1, .inl (cY 1, 6, .inl (fun _ => 0))), (q42_59, .inr (4, [.int 0, .int 0, .int 0, .int 0, .int 0, .int 0, .ref (u46_61 0), .ref (u46_61 1)])), (u46_61 0, .inl (cY 0, 5, .inl (fun _ => 0))), (u46_61 1, .inl (cY 1, 6, .inl (fun _ => 0)))] H := hP1
  have hD : va_D A [(h0, .inr (5, [.int 0, .ref q12_8, .ref q19_11])), (q12_8, .inl (cY 2, 6, .inr (.inr (.inr (.inr (va_up (va_up (va_up (va_up (fun _ => none) (0 : Int32).toNatClampNeg (some q42_23)) (1 : Int32).toNatClampNeg (some q42_35)) (2 : Int32).toNatClampNeg (some q42_47)) (3 : Int32).toNatClampNeg (some q42_59))))))), (q19_11, .inr (4, [.int 0, .int 0, .int 0, .int 0, .int 0, .int 0, .ref (u23_13 0), .ref (u23_13 1)])), (u23_13 0, .inl (cY 0, 5, .inl (fun _ => 0))), (u23_13 1, .inl (cY 1, 6, .inl (fun _ => 0))), (q42_23, .inr (4, [.int 0, .int 0, .int 0, .int 0, .int 0, .int 0, .ref (u46_25 0), .ref (u46_25 1)])), (u46_25 0, .inl (cY 0, 5, .inl (fun _ => 0))), (u46_25 1, .inl (cY 1, 6, .inl (fun _ => 0))), (q42_35, .inr (4, [.int 0, .int 0, .int 0, .int 0, .int 0, .int 0, .ref (u46_37 0), .ref (u46_37 1)])), (u46_37 0, .inl (cY 0, 5, .inl (fun _ => 0))), (u46_37 1, .inl (cY 1, 6, .inl (fun _ => 0))), (q42_47, .inr (4, [.int 0, .int 0, .int 0, .int 0, .int 0, .int 0, .ref (u46_49 0), .ref (u46_49 1)])), (u46_49 0, .inl (cY 0, 5, .inl (fun _ => 0))), (u46_49 1, .inl (cY 1, 6, .inl (fun _ => 0))), (q42_59, .inr (4, [.int 0, .int 0, .int 0, .int 0, .int 0, .int 0, .ref (u46_61 0), .ref (u46_61 1)])), (u46_61 0, .inl (cY 0, 5, .inl (fun _ => 0))), (u46_61 1, .inl (cY 1, 6, .inl (fun _ => 0)))] := hD1
  have hS := hS1
  clear hP1 hD1 hS1
  refine lv_iinc (v := 4) (lv' := [(1, .int 4), (0, .ref h0)]) hx hb dX5_init_50 hl (k := 0) rfl (by first | rfl | decide) (by decide) rfl (fun ls hl => ?_)
  refine lv_goto (tgt := 31) hx hb dX5_init_53 (by decide) ?_
  refine lv_iload_n hx hb dX5_init_31 rfl (lv_at hl 0 rfl) ?_
  refine lv_bipush (v := 6) hx hb dX5_init_32 (by decide) ?_
  refine lv_icmp_ge (tgt := 56) hx hb dX5_init_34 (by decide) (fun c_67 => ?_) (fun c_67 => ?_)
  · exact absurd c_67 (by decide)
  refine lv_aload_n hx hb dX5_init_37 rfl (lv_at hl 1 rfl) ?_
  refine va_get (D := (dC, dI)) (ci := 5) (v := .ref q12_8) (C := RX5) (T := TX5) (N := 3) hx hb hts inw_X5_init_X5 hown hK hP 0 rfl rfl 1 (by decide) (hts (.fieldLink RX5 17 "DuelFrames$MoveList" "row" "[LDuelFrames$Move;") (List.mem_of_getElem? (i := 6) rfl)) (fun _ h9 => h9) rfl dX5_init_38 ?_
  refine lv_iload_n hx hb dX5_init_41 rfl (lv_at hl 0 rfl) ?_
  refine va_new (D := (dC, dI)) (ci := 4) (fs := [.int 0, .int 0, .int 0, .int 0, .int 0, .int 0, .null, .null]) (C := RX4) (T := TX4) (N := 8) hx hb hts inw_X5_init_X4 tyX4 tyX4_ok hown (hts (.classLink RX5 15 RX4) (List.mem_of_getElem? (i := 5) rfl)) (hts (.instantiable RX4 8) (List.mem_of_getElem? (i := 7) rfl)) (hts (.initialized RX4) (List.mem_of_getElem? (i := 8) rfl)) hK hP hD hS hA rfl (fun j hj => by rcases (show j = 0 ∨ j = 1 ∨ j = 2 ∨ j = 3 ∨ j = 4 ∨ j = 5 ∨ j = 6 ∨ j = 7 by omega) with rfl | rfl | rfl | rfl | rfl | rfl | rfl | rfl <;> rfl) (Nat.le_of_ble_eq_true rfl) (Nat.le_of_ble_eq_true rfl) dX5_init_42 (fun q42_71 H hP1 hD1 hS1 => ?_)
  clear hP hD hS
  have hP : va_P (dC, dI) vwCl [(h0, .inr (5, [.int 0, .ref q12_8, .ref q19_11])), (q12_8, .inl (cY 2, 6, .inr (.inr (.inr (.inr (va_up (va_up (va_up (va_up (fun _ => none) (0 : Int32).toNatClampNeg (some q42_23)) (1 : Int32).toNatClampNeg (some q42_35)) (2 : Int32).toNatClampNeg (some q42_47)) (3 : Int32).toNatClampNeg (some q42_59))))))), (q19_11, .inr (4, [.int 0, .int 0, .int 0, .int 0, .int 0, .int 0, .ref (u23_13 0), .ref (u23_13 1)])), (u23_13 0, .inl (cY 0, 5, .inl (fun _ => 0))), (u23_13 1, .inl (cY 1, 6, .inl (fun _ => 0))), (q42_23, .inr (4, [.int 0, .int 0, .int 0, .int 0, .int 0, .int 0, .ref (u46_25 0), .ref (u46_25 1)])), (u46_25 0, .inl (cY 0, 5, .inl (fun _ => 0))), (u46_25 1, .inl (cY 1, 6, .inl (fun _ => 0))), (q42_35, .inr (4, [.int 0, .int 0, .int 0, .int 0, .int 0, .int 0, .ref (u46_37 0), .ref (u46_37 1)])), (u46_37 0, .inl (cY 0, 5, .inl (fun _ => 0))), (u46_37 1, .inl (cY 1, 6, .inl (fun _ => 0))), (q42_47, .inr (4, [.int 0, .int 0, .int 0, .int 0, .int 0, .int 0, .ref (u46_49 0), .ref (u46_49 1)])), (u46_49 0, .inl (cY 0, 5, .inl (fun _ => 0))), (u46_49 1, .inl (cY 1, 6, .inl (fun _ => 0))), (q42_59, .inr (4, [.int 0, .int 0, .int 0, .int 0, .int 0, .int 0, .ref (u46_61 0), .ref (u46_61 1)])), (u46_61 0, .inl (cY 0, 5, .inl (fun _ => 0))), (u46_61 1, .inl (cY 1, 6, .inl (fun _ => 0))), (q42_71, .inr (4, [.int 0, .int 0, .int 0, .int 0, .int 0, .int 0, .null, .null]))] H := hP1
  have hD : va_D A [(h0, .inr (5, [.int 0, .ref q12_8, .ref q19_11])), (q12_8, .inl (cY 2, 6, .inr (.inr (.inr (.inr (va_up (va_up (va_up (va_up (fun _ => none) (0 : Int32).toNatClampNeg (some q42_23)) (1 : Int32).toNatClampNeg (some q42_35)) (2 : Int32).toNatClampNeg (some q42_47)) (3 : Int32).toNatClampNeg (some q42_59))))))), (q19_11, .inr (4, [.int 0, .int 0, .int 0, .int 0, .int 0, .int 0, .ref (u23_13 0), .ref (u23_13 1)])), (u23_13 0, .inl (cY 0, 5, .inl (fun _ => 0))), (u23_13 1, .inl (cY 1, 6, .inl (fun _ => 0))), (q42_23, .inr (4, [.int 0, .int 0, .int 0, .int 0, .int 0, .int 0, .ref (u46_25 0), .ref (u46_25 1)])), (u46_25 0, .inl (cY 0, 5, .inl (fun _ => 0))), (u46_25 1, .inl (cY 1, 6, .inl (fun _ => 0))), (q42_35, .inr (4, [.int 0, .int 0, .int 0, .int 0, .int 0, .int 0, .ref (u46_37 0), .ref (u46_37 1)])), (u46_37 0, .inl (cY 0, 5, .inl (fun _ => 0))), (u46_37 1, .inl (cY 1, 6, .inl (fun _ => 0))), (q42_47, .inr (4, [.int 0, .int 0, .int 0, .int 0, .int 0, .int 0, .ref (u46_49 0), .ref (u46_49 1)])), (u46_49 0, .inl (cY 0, 5, .inl (fun _ => 0))), (u46_49 1, .inl (cY 1, 6, .inl (fun _ => 0))), (q42_59, .inr (4, [.int 0, .int 0, .int 0, .int 0, .int 0, .int 0, .ref (u46_61 0), .ref (u46_61 1)])), (u46_61 0, .inl (cY 0, 5, .inl (fun _ => 0))), (u46_61 1, .inl (cY 1, 6, .inl (fun _ => 0))), (q42_71, .inr (4, [.int 0, .int 0, .int 0, .int 0, .int 0, .int 0, .null, .null]))] := hD1
  have hS := hS1
  clear hP1 hD1 hS1
  refine W.widen (k := 17) (n := 109) (Nat.le_of_ble_eq_true rfl) (Nat.le_of_ble_eq_true rfl) ?_
  refine lv_dup hx hb dX5_init_45 rfl ?_
  have hPc := hP.sub (ws' := [(q42_71, .inr (4, [.int 0, .int 0, .int 0, .int 0, .int 0, .int 0, .null, .null]))]) [17] rfl
  have hDc := hD.sub (ws' := [(q42_71, .inr (4, [.int 0, .int 0, .int 0, .int 0, .int 0, .int 0, .null, .null]))]) [17] (by decide) rfl
  have hFc := va_free (wc := [(q42_71, .inr (4, [.int 0, .int 0, .int 0, .int 0, .int 0, .int 0, .null, .null]))]) hD hS hA [17] rfl
  refine va_callv (va_runIN (As := []) (rest := [.ref q42_71, .int 4, .ref q12_8]) ⟨hx, hb, hml, hown, hts⟩ (c_X4_init l dC dI cY q42_71 H.size) ⟨va_cnB 0 hts gX5_init_X4_init_n21 rfl rfl rfl hN.2.2.1 (hts (.initialized RX4) (List.mem_of_getElem? (i := 8) rfl)) (by decide +kernel) ⟨(Nat.le_of_ble_eq_true rfl), (Nat.le_of_ble_eq_true rfl)⟩, rfl, (hts (.instanceMethod yX4_init) (List.mem_of_getElem? (i := 10) rfl))⟩ ⟨blindW, fun U hU hW => ⟨rfl, wPre_of hPc hK hN hDc U hU hW⟩⟩ rfl rfl hl.1 rfl (lv_room (Nat.le_of_ble_eq_true rfl)) dX5_init_46 ⟨(Nat.le_of_ble_eq_true rfl), (Nat.le_of_ble_eq_true rfl)⟩) hS (fun q _ h => hFc q h) hFc (fun u46_73 t H1 locs ht hvm hw hB hz1 hk1 hS1 => ?_)
  have hJ := wJoin (wr := [(h0, .inr (5, [.int 0, .ref q12_8, .ref q19_11])), (q12_8, .inl (cY 2, 6, .inr (.inr (.inr (.inr (va_up (va_up (va_up (va_up (fun _ => none) (0 : Int32).toNatClampNeg (some q42_23)) (1 : Int32).toNatClampNeg (some q42_35)) (2 : Int32).toNatClampNeg (some q42_47)) (3 : Int32).toNatClampNeg (some q42_59))))))), (q19_11, .inr (4, [.int 0, .int 0, .int 0, .int 0, .int 0, .int 0, .ref (u23_13 0), .ref (u23_13 1)])), (u23_13 0, .inl (cY 0, 5, .inl (fun _ => 0))), (u23_13 1, .inl (cY 1, 6, .inl (fun _ => 0))), (q42_23, .inr (4, [.int 0, .int 0, .int 0, .int 0, .int 0, .int 0, .ref (u46_25 0), .ref (u46_25 1)])), (u46_25 0, .inl (cY 0, 5, .inl (fun _ => 0))), (u46_25 1, .inl (cY 1, 6, .inl (fun _ => 0))), (q42_35, .inr (4, [.int 0, .int 0, .int 0, .int 0, .int 0, .int 0, .ref (u46_37 0), .ref (u46_37 1)])), (u46_37 0, .inl (cY 0, 5, .inl (fun _ => 0))), (u46_37 1, .inl (cY 1, 6, .inl (fun _ => 0))), (q42_47, .inr (4, [.int 0, .int 0, .int 0, .int 0, .int 0, .int 0, .ref (u46_49 0), .ref (u46_49 1)])), (u46_49 0, .inl (cY 0, 5, .inl (fun _ => 0))), (u46_49 1, .inl (cY 1, 6, .inl (fun _ => 0))), (q42_59, .inr (4, [.int 0, .int 0, .int 0, .int 0, .int 0, .int 0, .ref (u46_61 0), .ref (u46_61 1)])), (u46_61 0, .inl (cY 0, 5, .inl (fun _ => 0))), (u46_61 1, .inl (cY 1, 6, .inl (fun _ => 0)))]) (w1 := [(q42_71, .inr (4, [.int 0, .int 0, .int 0, .int 0, .int 0, .int 0, .ref (u46_73 0), .ref (u46_73 1)])), (u46_73 0, .inl (cY 0, 5, .inl (fun _ => 0))), (u46_73 1, .inl (cY 1, 6, .inl (fun _ => 0)))]) (wn := [(h0, .inr (5, [.int 0, .ref q12_8, .ref q19_11])), (q12_8, .inl (cY 2, 6, .inr (.inr (.inr (.inr (va_up (va_up (va_up (va_up (fun _ => none) (0 : Int32).toNatClampNeg (some q42_23)) (1 : Int32).toNatClampNeg (some q42_35)) (2 : Int32).toNatClampNeg (some q42_47)) (3 : Int32).toNatClampNeg (some q42_59))))))), (q19_11, .inr (4, [.int 0, .int 0, .int 0, .int 0, .int 0, .int 0, .ref (u23_13 0), .ref (u23_13 1)])), (u23_13 0, .inl (cY 0, 5, .inl (fun _ => 0))), (u23_13 1, .inl (cY 1, 6, .inl (fun _ => 0))), (q42_23, .inr (4, [.int 0, .int 0, .int 0, .int 0, .int 0, .int 0, .ref (u46_25 0), .ref (u46_25 1)])), (u46_25 0, .inl (cY 0, 5, .inl (fun _ => 0))), (u46_25 1, .inl (cY 1, 6, .inl (fun _ => 0))), (q42_35, .inr (4, [.int 0, .int 0, .int 0, .int 0, .int 0, .int 0, .ref (u46_37 0), .ref (u46_37 1)])), (u46_37 0, .inl (cY 0, 5, .inl (fun _ => 0))), (u46_37 1, .inl (cY 1, 6, .inl (fun _ => 0))), (q42_47, .inr (4, [.int 0, .int 0, .int 0, .int 0, .int 0, .int 0, .ref (u46_49 0), .ref (u46_49 1)])), (u46_49 0, .inl (cY 0, 5, .inl (fun _ => 0))), (u46_49 1, .inl (cY 1, 6, .inl (fun _ => 0))), (q42_59, .inr (4, [.int 0, .int 0, .int 0, .int 0, .int 0, .int 0, .ref (u46_61 0), .ref (u46_61 1)])), (u46_61 0, .inl (cY 0, 5, .inl (fun _ => 0))), (u46_61 1, .inl (cY 1, 6, .inl (fun _ => 0))), (q42_71, .inr (4, [.int 0, .int 0, .int 0, .int 0, .int 0, .int 0, .ref (u46_73 0), .ref (u46_73 1)])), (u46_73 0, .inl (cY 0, 5, .inl (fun _ => 0))), (u46_73 1, .inl (cY 1, 6, .inl (fun _ => 0)))]) hP hD [17] [0, 1, 2, 3, 4, 5, 6, 7, 8, 9, 10, 11, 12, 13, 14, 15, 16] rfl rfl (by decide +kernel) (by decide +kernel) hk1 hFc hB ht [0, 1, 2, 3, 4, 5, 6, 7, 8, 9, 10, 11, 12, 13, 14, 15, 16, 17, 18, 19] rfl (by decide +kernel)
  clear hB hk1 hFc hPc hDc hP hD hS hz1 hvm ht t
  obtain ⟨hP1, hD1⟩ := hJ
  generalize H1 = H at hP1 hS1 ⊢
  have hP : va_P (dC, dI) vwCl [(h0, .inr (5, [.int 0, .ref q12_8, .ref q19_11])), (q12_8, .inl (cY 2, 6, .inr (.inr (.inr (.inr (va_up (va_up (va_up (va_up (fun _ => none) (0 : Int32).toNatClampNeg (some q42_23)) (1 : Int32).toNatClampNeg (some q42_35)) (2 : Int32).toNatClampNeg (some q42_47)) (3 : Int32).toNatClampNeg (some q42_59))))))), (q19_11, .inr (4, [.int 0, .int 0, .int 0, .int 0, .int 0, .int 0, .ref (u23_13 0), .ref (u23_13 1)])), (u23_13 0, .inl (cY 0, 5, .inl (fun _ => 0))), (u23_13 1, .inl (cY 1, 6, .inl (fun _ => 0))), (q42_23, .inr (4, [.int 0, .int 0, .int 0, .int 0, .int 0, .int 0, .ref (u46_25 0), .ref (u46_25 1)])), (u46_25 0, .inl (cY 0, 5, .inl (fun _ => 0))), (u46_25 1, .inl (cY 1, 6, .inl (fun _ => 0))), (q42_35, .inr (4, [.int 0, .int 0, .int 0, .int 0, .int 0, .int 0, .ref (u46_37 0), .ref (u46_37 1)])), (u46_37 0, .inl (cY 0, 5, .inl (fun _ => 0))), (u46_37 1, .inl (cY 1, 6, .inl (fun _ => 0))), (q42_47, .inr (4, [.int 0, .int 0, .int 0, .int 0, .int 0, .int 0, .ref (u46_49 0), .ref (u46_49 1)])), (u46_49 0, .inl (cY 0, 5, .inl (fun _ => 0))), (u46_49 1, .inl (cY 1, 6, .inl (fun _ => 0))), (q42_59, .inr (4, [.int 0, .int 0, .int 0, .int 0, .int 0, .int 0, .ref (u46_61 0), .ref (u46_61 1)])), (u46_61 0, .inl (cY 0, 5, .inl (fun _ => 0))), (u46_61 1, .inl (cY 1, 6, .inl (fun _ => 0))), (q42_71, .inr (4, [.int 0, .int 0, .int 0, .int 0, .int 0, .int 0, .ref (u46_73 0), .ref (u46_73 1)])), (u46_73 0, .inl (cY 0, 5, .inl (fun _ => 0))), (u46_73 1, .inl (cY 1, 6, .inl (fun _ => 0)))] H := hP1
  have hD : va_D A [(h0, .inr (5, [.int 0, .ref q12_8, .ref q19_11])), (q12_8, .inl (cY 2, 6, .inr (.inr (.inr (.inr (va_up (va_up (va_up (va_up (fun _ => none) (0 : Int32).toNatClampNeg (some q42_23)) (1 : Int32).toNatClampNeg (some q42_35)) (2 : Int32).toNatClampNeg (some q42_47)) (3 : Int32).toNatClampNeg (some q42_59))))))), (q19_11, .inr (4, [.int 0, .int 0, .int 0, .int 0, .int 0, .int 0, .ref (u23_13 0), .ref (u23_13 1)])), (u23_13 0, .inl (cY 0, 5, .inl (fun _ => 0))), (u23_13 1, .inl (cY 1, 6, .inl (fun _ => 0))), (q42_23, .inr (4, [.int 0, .int 0, .int 0, .int 0, .int 0, .int 0, .ref (u46_25 0), .ref (u46_25 1)])), (u46_25 0, .inl (cY 0, 5, .inl (fun _ => 0))), (u46_25 1, .inl (cY 1, 6, .inl (fun _ => 0))), (q42_35, .inr (4, [.int 0, .int 0, .int 0, .int 0, .int 0, .int 0, .ref (u46_37 0), .ref (u46_37 1)])), (u46_37 0, .inl (cY 0, 5, .inl (fun _ => 0))), (u46_37 1, .inl (cY 1, 6, .inl (fun _ => 0))), (q42_47, .inr (4, [.int 0, .int 0, .int 0, .int 0, .int 0, .int 0, .ref (u46_49 0), .ref (u46_49 1)])), (u46_49 0, .inl (cY 0, 5, .inl (fun _ => 0))), (u46_49 1, .inl (cY 1, 6, .inl (fun _ => 0))), (q42_59, .inr (4, [.int 0, .int 0, .int 0, .int 0, .int 0, .int 0, .ref (u46_61 0), .ref (u46_61 1)])), (u46_61 0, .inl (cY 0, 5, .inl (fun _ => 0))), (u46_61 1, .inl (cY 1, 6, .inl (fun _ => 0))), (q42_71, .inr (4, [.int 0, .int 0, .int 0, .int 0, .int 0, .int 0, .ref (u46_73 0), .ref (u46_73 1)])), (u46_73 0, .inl (cY 0, 5, .inl (fun _ => 0))), (u46_73 1, .inl (cY 1, 6, .inl (fun _ => 0)))] := hD1
  have hS := hS1
  clear hP1 hD1 hS1
  refine W.widen (k := 19) (n := 120) (Nat.le_of_ble_eq_true rfl) (Nat.le_of_ble_eq_true rfl) ?_
  refine va_astq hx hb hK hP hD hS 1 2 17 4 rfl rfl rfl rfl (vin rfl) dX5_init_49 (fun H locs hP1 hD1 hS1 => ?_)
  clear hP hD hS
  have hP : va_P (dC, dI) vwCl [(h0, .inr (5, [.int 0, .ref q12_8, .ref q19_11])), (q12_8, .inl (cY 2, 6, .inr (.inr (.inr (.inr (va_up (va_up (va_up (va_up (va_up (fun _ => none) (0 : Int32).toNatClampNeg (some q42_23)) (1 : Int32).toNatClampNeg (some q42_35)) (2 : Int32).toNatClampNeg (some q42_47)) (3 : Int32).toNatClampNeg (some q42_59)) (4 : Int32).toNatClampNeg (some q42_71))))))), (q19_11, .inr (4, [.int 0, .int 0, .int 0, .int 0, .int 0, .int 0, .ref (u23_13 0), .ref (u23_13 1)])), (u23_13 0, .inl (cY 0, 5, .inl (fun _ => 0))), (u23_13 1, .inl (cY 1, 6, .inl (fun _ => 0))), (q42_23, .inr (4, [.int 0, .int 0, .int 0, .int 0, .int 0, .int 0, .ref (u46_25 0), .ref (u46_25 1)])), (u46_25 0, .inl (cY 0, 5, .inl (fun _ => 0))), (u46_25 1, .inl (cY 1, 6, .inl (fun _ => 0))), (q42_35, .inr (4, [.int 0, .int 0, .int 0, .int 0, .int 0, .int 0, .ref (u46_37 0), .ref (u46_37 1)])), (u46_37 0, .inl (cY 0, 5, .inl (fun _ => 0))), (u46_37 1, .inl (cY 1, 6, .inl (fun _ => 0))), (q42_47, .inr (4, [.int 0, .int 0, .int 0, .int 0, .int 0, .int 0, .ref (u46_49 0), .ref (u46_49 1)])), (u46_49 0, .inl (cY 0, 5, .inl (fun _ => 0))), (u46_49 1, .inl (cY 1, 6, .inl (fun _ => 0))), (q42_59, .inr (4, [.int 0, .int 0, .int 0, .int 0, .int 0, .int 0, .ref (u46_61 0), .ref (u46_61 1)])), (u46_61 0, .inl (cY 0, 5, .inl (fun _ => 0))), (u46_61 1, .inl (cY 1, 6, .inl (fun _ => 0))), (q42_71, .inr (4, [.int 0, .int 0, .int 0, .int 0, .int 0, .int 0, .ref (u46_73 0), .ref (u46_73 1)])), (u46_73 0, .inl (cY 0, 5, .inl (fun _ => 0))), (u46_73 1, .inl (cY 1, 6, .inl (fun _ => 0)))] H := hP1
  have hD : va_D A [(h0, .inr (5, [.int 0, .ref q12_8, .ref q19_11])), (q12_8, .inl (cY 2, 6, .inr (.inr (.inr (.inr (va_up (va_up (va_up (va_up (va_up (fun _ => none) (0 : Int32).toNatClampNeg (some q42_23)) (1 : Int32).toNatClampNeg (some q42_35)) (2 : Int32).toNatClampNeg (some q42_47)) (3 : Int32).toNatClampNeg (some q42_59)) (4 : Int32).toNatClampNeg (some q42_71))))))), (q19_11, .inr (4, [.int 0, .int 0, .int 0, .int 0, .int 0, .int 0, .ref (u23_13 0), .ref (u23_13 1)])), (u23_13 0, .inl (cY 0, 5, .inl (fun _ => 0))), (u23_13 1, .inl (cY 1, 6, .inl (fun _ => 0))), (q42_23, .inr (4, [.int 0, .int 0, .int 0, .int 0, .int 0, .int 0, .ref (u46_25 0), .ref (u46_25 1)])), (u46_25 0, .inl (cY 0, 5, .inl (fun _ => 0))), (u46_25 1, .inl (cY 1, 6, .inl (fun _ => 0))), (q42_35, .inr (4, [.int 0, .int 0, .int 0, .int 0, .int 0, .int 0, .ref (u46_37 0), .ref (u46_37 1)])), (u46_37 0, .inl (cY 0, 5, .inl (fun _ => 0))), (u46_37 1, .inl (cY 1, 6, .inl (fun _ => 0))), (q42_47, .inr (4, [.int 0, .int 0, .int 0, .int 0, .int 0, .int 0, .ref (u46_49 0), .ref (u46_49 1)])), (u46_49 0, .inl (cY 0, 5, .inl (fun _ => 0))), (u46_49 1, .inl (cY 1, 6, .inl (fun _ => 0))), (q42_59, .inr (4, [.int 0, .int 0, .int 0, .int 0, .int 0, .int 0, .ref (u46_61 0), .ref (u46_61 1)])), (u46_61 0, .inl (cY 0, 5, .inl (fun _ => 0))), (u46_61 1, .inl (cY 1, 6, .inl (fun _ => 0))), (q42_71, .inr (4, [.int 0, .int 0, .int 0, .int 0, .int 0, .int 0, .ref (u46_73 0), .ref (u46_73 1)])), (u46_73 0, .inl (cY 0, 5, .inl (fun _ => 0))), (u46_73 1, .inl (cY 1, 6, .inl (fun _ => 0)))] := hD1
  have hS := hS1
  clear hP1 hD1 hS1
  refine lv_iinc (v := 5) (lv' := [(1, .int 5), (0, .ref h0)]) hx hb dX5_init_50 hl (k := 0) rfl (by first | rfl | decide) (by decide) rfl (fun ls hl => ?_)
  refine lv_goto (tgt := 31) hx hb dX5_init_53 (by decide) ?_
  refine lv_iload_n hx hb dX5_init_31 rfl (lv_at hl 0 rfl) ?_
  refine lv_bipush (v := 6) hx hb dX5_init_32 (by decide) ?_
  refine lv_icmp_ge (tgt := 56) hx hb dX5_init_34 (by decide) (fun c_79 => ?_) (fun c_79 => ?_)
  · exact absurd c_79 (by decide)
  refine lv_aload_n hx hb dX5_init_37 rfl (lv_at hl 1 rfl) ?_
  refine va_get (D := (dC, dI)) (ci := 5) (v := .ref q12_8) (C := RX5) (T := TX5) (N := 3) hx hb hts inw_X5_init_X5 hown hK hP 0 rfl rfl 1 (by decide) (hts (.fieldLink RX5 17 "DuelFrames$MoveList" "row" "[LDuelFrames$Move;") (List.mem_of_getElem? (i := 6) rfl)) (fun _ h9 => h9) rfl dX5_init_38 ?_
  refine lv_iload_n hx hb dX5_init_41 rfl (lv_at hl 0 rfl) ?_
  refine va_new (D := (dC, dI)) (ci := 4) (fs := [.int 0, .int 0, .int 0, .int 0, .int 0, .int 0, .null, .null]) (C := RX4) (T := TX4) (N := 8) hx hb hts inw_X5_init_X4 tyX4 tyX4_ok hown (hts (.classLink RX5 15 RX4) (List.mem_of_getElem? (i := 5) rfl)) (hts (.instantiable RX4 8) (List.mem_of_getElem? (i := 7) rfl)) (hts (.initialized RX4) (List.mem_of_getElem? (i := 8) rfl)) hK hP hD hS hA rfl (fun j hj => by rcases (show j = 0 ∨ j = 1 ∨ j = 2 ∨ j = 3 ∨ j = 4 ∨ j = 5 ∨ j = 6 ∨ j = 7 by omega) with rfl | rfl | rfl | rfl | rfl | rfl | rfl | rfl <;> rfl) (Nat.le_of_ble_eq_true rfl) (Nat.le_of_ble_eq_true rfl) dX5_init_42 (fun q42_83 H hP1 hD1 hS1 => ?_)
  clear hP hD hS
  have hP : va_P (dC, dI) vwCl [(h0, .inr (5, [.int 0, .ref q12_8, .ref q19_11])), (q12_8, .inl (cY 2, 6, .inr (.inr (.inr (.inr (va_up (va_up (va_up (va_up (va_up (fun _ => none) (0 : Int32).toNatClampNeg (some q42_23)) (1 : Int32).toNatClampNeg (some q42_35)) (2 : Int32).toNatClampNeg (some q42_47)) (3 : Int32).toNatClampNeg (some q42_59)) (4 : Int32).toNatClampNeg (some q42_71))))))), (q19_11, .inr (4, [.int 0, .int 0, .int 0, .int 0, .int 0, .int 0, .ref (u23_13 0), .ref (u23_13 1)])), (u23_13 0, .inl (cY 0, 5, .inl (fun _ => 0))), (u23_13 1, .inl (cY 1, 6, .inl (fun _ => 0))), (q42_23, .inr (4, [.int 0, .int 0, .int 0, .int 0, .int 0, .int 0, .ref (u46_25 0), .ref (u46_25 1)])), (u46_25 0, .inl (cY 0, 5, .inl (fun _ => 0))), (u46_25 1, .inl (cY 1, 6, .inl (fun _ => 0))), (q42_35, .inr (4, [.int 0, .int 0, .int 0, .int 0, .int 0, .int 0, .ref (u46_37 0), .ref (u46_37 1)])), (u46_37 0, .inl (cY 0, 5, .inl (fun _ => 0))), (u46_37 1, .inl (cY 1, 6, .inl (fun _ => 0))), (q42_47, .inr (4, [.int 0, .int 0, .int 0, .int 0, .int 0, .int 0, .ref (u46_49 0), .ref (u46_49 1)])), (u46_49 0, .inl (cY 0, 5, .inl (fun _ => 0))), (u46_49 1, .inl (cY 1, 6, .inl (fun _ => 0))), (q42_59, .inr (4, [.int 0, .int 0, .int 0, .int 0, .int 0, .int 0, .ref (u46_61 0), .ref (u46_61 1)])), (u46_61 0, .inl (cY 0, 5, .inl (fun _ => 0))), (u46_61 1, .inl (cY 1, 6, .inl (fun _ => 0))), (q42_71, .inr (4, [.int 0, .int 0, .int 0, .int 0, .int 0, .int 0, .ref (u46_73 0), .ref (u46_73 1)])), (u46_73 0, .inl (cY 0, 5, .inl (fun _ => 0))), (u46_73 1, .inl (cY 1, 6, .inl (fun _ => 0))), (q42_83, .inr (4, [.int 0, .int 0, .int 0, .int 0, .int 0, .int 0, .null, .null]))] H := hP1
  have hD : va_D A [(h0, .inr (5, [.int 0, .ref q12_8, .ref q19_11])), (q12_8, .inl (cY 2, 6, .inr (.inr (.inr (.inr (va_up (va_up (va_up (va_up (va_up (fun _ => none) (0 : Int32).toNatClampNeg (some q42_23)) (1 : Int32).toNatClampNeg (some q42_35)) (2 : Int32).toNatClampNeg (some q42_47)) (3 : Int32).toNatClampNeg (some q42_59)) (4 : Int32).toNatClampNeg (some q42_71))))))), (q19_11, .inr (4, [.int 0, .int 0, .int 0, .int 0, .int 0, .int 0, .ref (u23_13 0), .ref (u23_13 1)])), (u23_13 0, .inl (cY 0, 5, .inl (fun _ => 0))), (u23_13 1, .inl (cY 1, 6, .inl (fun _ => 0))), (q42_23, .inr (4, [.int 0, .int 0, .int 0, .int 0, .int 0, .int 0, .ref (u46_25 0), .ref (u46_25 1)])), (u46_25 0, .inl (cY 0, 5, .inl (fun _ => 0))), (u46_25 1, .inl (cY 1, 6, .inl (fun _ => 0))), (q42_35, .inr (4, [.int 0, .int 0, .int 0, .int 0, .int 0, .int 0, .ref (u46_37 0), .ref (u46_37 1)])), (u46_37 0, .inl (cY 0, 5, .inl (fun _ => 0))), (u46_37 1, .inl (cY 1, 6, .inl (fun _ => 0))), (q42_47, .inr (4, [.int 0, .int 0, .int 0, .int 0, .int 0, .int 0, .ref (u46_49 0), .ref (u46_49 1)])), (u46_49 0, .inl (cY 0, 5, .inl (fun _ => 0))), (u46_49 1, .inl (cY 1, 6, .inl (fun _ => 0))), (q42_59, .inr (4, [.int 0, .int 0, .int 0, .int 0, .int 0, .int 0, .ref (u46_61 0), .ref (u46_61 1)])), (u46_61 0, .inl (cY 0, 5, .inl (fun _ => 0))), (u46_61 1, .inl (cY 1, 6, .inl (fun _ => 0))), (q42_71, .inr (4, [.int 0, .int 0, .int 0, .int 0, .int 0, .int 0, .ref (u46_73 0), .ref (u46_73 1)])), (u46_73 0, .inl (cY 0, 5, .inl (fun _ => 0))), (u46_73 1, .inl (cY 1, 6, .inl (fun _ => 0))), (q42_83, .inr (4, [.int 0, .int 0, .int 0, .int 0, .int 0, .int 0, .null, .null]))] := hD1
  have hS := hS1
  clear hP1 hD1 hS1
  refine W.widen (k := 20) (n := 128) (Nat.le_of_ble_eq_true rfl) (Nat.le_of_ble_eq_true rfl) ?_
  refine lv_dup hx hb dX5_init_45 rfl ?_
  have hPc := hP.sub (ws' := [(q42_83, .inr (4, [.int 0, .int 0, .int 0, .int 0, .int 0, .int 0, .null, .null]))]) [20] rfl
  have hDc := hD.sub (ws' := [(q42_83, .inr (4, [.int 0, .int 0, .int 0, .int 0, .int 0, .int 0, .null, .null]))]) [20] (by decide) rfl
  have hFc := va_free (wc := [(q42_83, .inr (4, [.int 0, .int 0, .int 0, .int 0, .int 0, .int 0, .null, .null]))]) hD hS hA [20] rfl
  refine va_callv (va_runIN (As := []) (rest := [.ref q42_83, .int 5, .ref q12_8]) ⟨hx, hb, hml, hown, hts⟩ (c_X4_init l dC dI cY q42_83 H.size) ⟨va_cnB 0 hts gX5_init_X4_init_n21 rfl rfl rfl hN.2.2.1 (hts (.initialized RX4) (List.mem_of_getElem? (i := 8) rfl)) (by decide +kernel) ⟨(Nat.le_of_ble_eq_true rfl), (Nat.le_of_ble_eq_true rfl)⟩, rfl, (hts (.instanceMethod yX4_init) (List.mem_of_getElem? (i := 10) rfl))⟩ ⟨blindW, fun U hU hW => ⟨rfl, wPre_of hPc hK hN hDc U hU hW⟩⟩ rfl rfl hl.1 rfl (lv_room (Nat.le_of_ble_eq_true rfl)) dX5_init_46 ⟨(Nat.le_of_ble_eq_true rfl), (Nat.le_of_ble_eq_true rfl)⟩) hS (fun q _ h => hFc q h) hFc (fun u46_85 t H1 locs ht hvm hw hB hz1 hk1 hS1 => ?_)
  have hJ := wJoin (wr := [(h0, .inr (5, [.int 0, .ref q12_8, .ref q19_11])), (q12_8, .inl (cY 2, 6, .inr (.inr (.inr (.inr (va_up (va_up (va_up (va_up (va_up (fun _ => none) (0 : Int32).toNatClampNeg (some q42_23)) (1 : Int32).toNatClampNeg (some q42_35)) (2 : Int32).toNatClampNeg (some q42_47)) (3 : Int32).toNatClampNeg (some q42_59)) (4 : Int32).toNatClampNeg (some q42_71))))))), (q19_11, .inr (4, [.int 0, .int 0, .int 0, .int 0, .int 0, .int 0, .ref (u23_13 0), .ref (u23_13 1)])), (u23_13 0, .inl (cY 0, 5, .inl (fun _ => 0))), (u23_13 1, .inl (cY 1, 6, .inl (fun _ => 0))), (q42_23, .inr (4, [.int 0, .int 0, .int 0, .int 0, .int 0, .int 0, .ref (u46_25 0), .ref (u46_25 1)])), (u46_25 0, .inl (cY 0, 5, .inl (fun _ => 0))), (u46_25 1, .inl (cY 1, 6, .inl (fun _ => 0))), (q42_35, .inr (4, [.int 0, .int 0, .int 0, .int 0, .int 0, .int 0, .ref (u46_37 0), .ref (u46_37 1)])), (u46_37 0, .inl (cY 0, 5, .inl (fun _ => 0))), (u46_37 1, .inl (cY 1, 6, .inl (fun _ => 0))), (q42_47, .inr (4, [.int 0, .int 0, .int 0, .int 0, .int 0, .int 0, .ref (u46_49 0), .ref (u46_49 1)])), (u46_49 0, .inl (cY 0, 5, .inl (fun _ => 0))), (u46_49 1, .inl (cY 1, 6, .inl (fun _ => 0))), (q42_59, .inr (4, [.int 0, .int 0, .int 0, .int 0, .int 0, .int 0, .ref (u46_61 0), .ref (u46_61 1)])), (u46_61 0, .inl (cY 0, 5, .inl (fun _ => 0))), (u46_61 1, .inl (cY 1, 6, .inl (fun _ => 0))), (q42_71, .inr (4, [.int 0, .int 0, .int 0, .int 0, .int 0, .int 0, .ref (u46_73 0), .ref (u46_73 1)])), (u46_73 0, .inl (cY 0, 5, .inl (fun _ => 0))), (u46_73 1, .inl (cY 1, 6, .inl (fun _ => 0)))]) (w1 := [(q42_83, .inr (4, [.int 0, .int 0, .int 0, .int 0, .int 0, .int 0, .ref (u46_85 0), .ref (u46_85 1)])), (u46_85 0, .inl (cY 0, 5, .inl (fun _ => 0))), (u46_85 1, .inl (cY 1, 6, .inl (fun _ => 0)))]) (wn := [(h0, .inr (5, [.int 0, .ref q12_8, .ref q19_11])), (q12_8, .inl (cY 2, 6, .inr (.inr (.inr (.inr (va_up (va_up (va_up (va_up (va_up (fun _ => none) (0 : Int32).toNatClampNeg (some q42_23)) (1 : Int32).toNatClampNeg (some q42_35)) (2 : Int32).toNatClampNeg (some q42_47)) (3 : Int32).toNatClampNeg (some q42_59)) (4 : Int32).toNatClampNeg (some q42_71))))))), (q19_11, .inr (4, [.int 0, .int 0, .int 0, .int 0, .int 0, .int 0, .ref (u23_13 0), .ref (u23_13 1)])), (u23_13 0, .inl (cY 0, 5, .inl (fun _ => 0))), (u23_13 1, .inl (cY 1, 6, .inl (fun _ => 0))), (q42_23, .inr (4, [.int 0, .int 0, .int 0, .int 0, .int 0, .int 0, .ref (u46_25 0), .ref (u46_25 1)])), (u46_25 0, .inl (cY 0, 5, .inl (fun _ => 0))), (u46_25 1, .inl (cY 1, 6, .inl (fun _ => 0))), (q42_35, .inr (4, [.int 0, .int 0, .int 0, .int 0, .int 0, .int 0, .ref (u46_37 0), .ref (u46_37 1)])), (u46_37 0, .inl (cY 0, 5, .inl (fun _ => 0))), (u46_37 1, .inl (cY 1, 6, .inl (fun _ => 0))), (q42_47, .inr (4, [.int 0, .int 0, .int 0, .int 0, .int 0, .int 0, .ref (u46_49 0), .ref (u46_49 1)])), (u46_49 0, .inl (cY 0, 5, .inl (fun _ => 0))), (u46_49 1, .inl (cY 1, 6, .inl (fun _ => 0))), (q42_59, .inr (4, [.int 0, .int 0, .int 0, .int 0, .int 0, .int 0, .ref (u46_61 0), .ref (u46_61 1)])), (u46_61 0, .inl (cY 0, 5, .inl (fun _ => 0))), (u46_61 1, .inl (cY 1, 6, .inl (fun _ => 0))), (q42_71, .inr (4, [.int 0, .int 0, .int 0, .int 0, .int 0, .int 0, .ref (u46_73 0), .ref (u46_73 1)])), (u46_73 0, .inl (cY 0, 5, .inl (fun _ => 0))), (u46_73 1, .inl (cY 1, 6, .inl (fun _ => 0))), (q42_83, .inr (4, [.int 0, .int 0, .int 0, .int 0, .int 0, .int 0, .ref (u46_85 0), .ref (u46_85 1)])), (u46_85 0, .inl (cY 0, 5, .inl (fun _ => 0))), (u46_85 1, .inl (cY 1, 6, .inl (fun _ => 0)))]) hP hD [20] [0, 1, 2, 3, 4, 5, 6, 7, 8, 9, 10, 11, 12, 13, 14, 15, 16, 17, 18, 19] rfl rfl (by decide +kernel) (by decide +kernel) hk1 hFc hB ht [0, 1, 2, 3, 4, 5, 6, 7, 8, 9, 10, 11, 12, 13, 14, 15, 16, 17, 18, 19, 20, 21, 22] rfl (by decide +kernel)
  clear hB hk1 hFc hPc hDc hP hD hS hz1 hvm ht t
  obtain ⟨hP1, hD1⟩ := hJ
  generalize H1 = H at hP1 hS1 ⊢
  have hP : va_P (dC, dI) vwCl [(h0, .inr (5, [.int 0, .ref q12_8, .ref q19_11])), (q12_8, .inl (cY 2, 6, .inr (.inr (.inr (.inr (va_up (va_up (va_up (va_up (va_up (fun _ => none) (0 : Int32).toNatClampNeg (some q42_23)) (1 : Int32).toNatClampNeg (some q42_35)) (2 : Int32).toNatClampNeg (some q42_47)) (3 : Int32).toNatClampNeg (some q42_59)) (4 : Int32).toNatClampNeg (some q42_71))))))), (q19_11, .inr (4, [.int 0, .int 0, .int 0, .int 0, .int 0, .int 0, .ref (u23_13 0), .ref (u23_13 1)])), (u23_13 0, .inl (cY 0, 5, .inl (fun _ => 0))), (u23_13 1, .inl (cY 1, 6, .inl (fun _ => 0))), (q42_23, .inr (4, [.int 0, .int 0, .int 0, .int 0, .int 0, .int 0, .ref (u46_25 0), .ref (u46_25 1)])), (u46_25 0, .inl (cY 0, 5, .inl (fun _ => 0))), (u46_25 1, .inl (cY 1, 6, .inl (fun _ => 0))), (q42_35, .inr (4, [.int 0, .int 0, .int 0, .int 0, .int 0, .int 0, .ref (u46_37 0), .ref (u46_37 1)])), (u46_37 0, .inl (cY 0, 5, .inl (fun _ => 0))), (u46_37 1, .inl (cY 1, 6, .inl (fun _ => 0))), (q42_47, .inr (4, [.int 0, .int 0, .int 0, .int 0, .int 0, .int 0, .ref (u46_49 0), .ref (u46_49 1)])), (u46_49 0, .inl (cY 0, 5, .inl (fun _ => 0))), (u46_49 1, .inl (cY 1, 6, .inl (fun _ => 0))), (q42_59, .inr (4, [.int 0, .int 0, .int 0, .int 0, .int 0, .int 0, .ref (u46_61 0), .ref (u46_61 1)])), (u46_61 0, .inl (cY 0, 5, .inl (fun _ => 0))), (u46_61 1, .inl (cY 1, 6, .inl (fun _ => 0))), (q42_71, .inr (4, [.int 0, .int 0, .int 0, .int 0, .int 0, .int 0, .ref (u46_73 0), .ref (u46_73 1)])), (u46_73 0, .inl (cY 0, 5, .inl (fun _ => 0))), (u46_73 1, .inl (cY 1, 6, .inl (fun _ => 0))), (q42_83, .inr (4, [.int 0, .int 0, .int 0, .int 0, .int 0, .int 0, .ref (u46_85 0), .ref (u46_85 1)])), (u46_85 0, .inl (cY 0, 5, .inl (fun _ => 0))), (u46_85 1, .inl (cY 1, 6, .inl (fun _ => 0)))] H := hP1
  have hD : va_D A [(h0, .inr (5, [.int 0, .ref q12_8, .ref q19_11])), (q12_8, .inl (cY 2, 6, .inr (.inr (.inr (.inr (va_up (va_up (va_up (va_up (va_up (fun _ => none) (0 : Int32).toNatClampNeg (some q42_23)) (1 : Int32).toNatClampNeg (some q42_35)) (2 : Int32).toNatClampNeg (some q42_47)) (3 : Int32).toNatClampNeg (some q42_59)) (4 : Int32).toNatClampNeg (some q42_71))))))), (q19_11, .inr (4, [.int 0, .int 0, .int 0, .int 0, .int 0, .int 0, .ref (u23_13 0), .ref (u23_13 1)])), (u23_13 0, .inl (cY 0, 5, .inl (fun _ => 0))), (u23_13 1, .inl (cY 1, 6, .inl (fun _ => 0))), (q42_23, .inr (4, [.int 0, .int 0, .int 0, .int 0, .int 0, .int 0, .ref (u46_25 0), .ref (u46_25 1)])), (u46_25 0, .inl (cY 0, 5, .inl (fun _ => 0))), (u46_25 1, .inl (cY 1, 6, .inl (fun _ => 0))), (q42_35, .inr (4, [.int 0, .int 0, .int 0, .int 0, .int 0, .int 0, .ref (u46_37 0), .ref (u46_37 1)])), (u46_37 0, .inl (cY 0, 5, .inl (fun _ => 0))), (u46_37 1, .inl (cY 1, 6, .inl (fun _ => 0))), (q42_47, .inr (4, [.int 0, .int 0, .int 0, .int 0, .int 0, .int 0, .ref (u46_49 0), .ref (u46_49 1)])), (u46_49 0, .inl (cY 0, 5, .inl (fun _ => 0))), (u46_49 1, .inl (cY 1, 6, .inl (fun _ => 0))), (q42_59, .inr (4, [.int 0, .int 0, .int 0, .int 0, .int 0, .int 0, .ref (u46_61 0), .ref (u46_61 1)])), (u46_61 0, .inl (cY 0, 5, .inl (fun _ => 0))), (u46_61 1, .inl (cY 1, 6, .inl (fun _ => 0))), (q42_71, .inr (4, [.int 0, .int 0, .int 0, .int 0, .int 0, .int 0, .ref (u46_73 0), .ref (u46_73 1)])), (u46_73 0, .inl (cY 0, 5, .inl (fun _ => 0))), (u46_73 1, .inl (cY 1, 6, .inl (fun _ => 0))), (q42_83, .inr (4, [.int 0, .int 0, .int 0, .int 0, .int 0, .int 0, .ref (u46_85 0), .ref (u46_85 1)])), (u46_85 0, .inl (cY 0, 5, .inl (fun _ => 0))), (u46_85 1, .inl (cY 1, 6, .inl (fun _ => 0)))] := hD1
  have hS := hS1
  clear hP1 hD1 hS1
  refine W.widen (k := 22) (n := 139) (Nat.le_of_ble_eq_true rfl) (Nat.le_of_ble_eq_true rfl) ?_
  refine va_astq hx hb hK hP hD hS 1 2 20 4 rfl rfl rfl rfl (vin rfl) dX5_init_49 (fun H locs hP1 hD1 hS1 => ?_)
  clear hP hD hS
  have hP : va_P (dC, dI) vwCl [(h0, .inr (5, [.int 0, .ref q12_8, .ref q19_11])), (q12_8, .inl (cY 2, 6, .inr (.inr (.inr (.inr (va_up (va_up (va_up (va_up (va_up (va_up (fun _ => none) (0 : Int32).toNatClampNeg (some q42_23)) (1 : Int32).toNatClampNeg (some q42_35)) (2 : Int32).toNatClampNeg (some q42_47)) (3 : Int32).toNatClampNeg (some q42_59)) (4 : Int32).toNatClampNeg (some q42_71)) (5 : Int32).toNatClampNeg (some q42_83))))))), (q19_11, .inr (4, [.int 0, .int 0, .int 0, .int 0, .int 0, .int 0, .ref (u23_13 0), .ref (u23_13 1)])), (u23_13 0, .inl (cY 0, 5, .inl (fun _ => 0))), (u23_13 1, .inl (cY 1, 6, .inl (fun _ => 0))), (q42_23, .inr (4, [.int 0, .int 0, .int 0, .int 0, .int 0, .int 0, .ref (u46_25 0), .ref (u46_25 1)])), (u46_25 0, .inl (cY 0, 5, .inl (fun _ => 0))), (u46_25 1, .inl (cY 1, 6, .inl (fun _ => 0))), (q42_35, .inr (4, [.int 0, .int 0, .int 0, .int 0, .int 0, .int 0, .ref (u46_37 0), .ref (u46_37 1)])), (u46_37 0, .inl (cY 0, 5, .inl (fun _ => 0))), (u46_37 1, .inl (cY 1, 6, .inl (fun _ => 0))), (q42_47, .inr (4, [.int 0, .int 0, .int 0, .int 0, .int 0, .int 0, .ref (u46_49 0), .ref (u46_49 1)])), (u46_49 0, .inl (cY 0, 5, .inl (fun _ => 0))), (u46_49 1, .inl (cY 1, 6, .inl (fun _ => 0))), (q42_59, .inr (4, [.int 0, .int 0, .int 0, .int 0, .int 0, .int 0, .ref (u46_61 0), .ref (u46_61 1)])), (u46_61 0, .inl (cY 0, 5, .inl (fun _ => 0))), (u46_61 1, .inl (cY 1, 6, .inl (fun _ => 0))), (q42_71, .inr (4, [.int 0, .int 0, .int 0, .int 0, .int 0, .int 0, .ref (u46_73 0), .ref (u46_73 1)])), (u46_73 0, .inl (cY 0, 5, .inl (fun _ => 0))), (u46_73 1, .inl (cY 1, 6, .inl (fun _ => 0))), (q42_83, .inr (4, [.int 0, .int 0, .int 0, .int 0, .int 0, .int 0, .ref (u46_85 0), .ref (u46_85 1)])), (u46_85 0, .inl (cY 0, 5, .inl (fun _ => 0))), (u46_85 1, .inl (cY 1, 6, .inl (fun _ => 0)))] H := hP1
  have hD : va_D A [(h0, .inr (5, [.int 0, .ref q12_8, .ref q19_11])), (q12_8, .inl (cY 2, 6, .inr (.inr (.inr (.inr (va_up (va_up (va_up (va_up (va_up (va_up (fun _ => none) (0 : Int32).toNatClampNeg (some q42_23)) (1 : Int32).toNatClampNeg (some q42_35)) (2 : Int32).toNatClampNeg (some q42_47)) (3 : Int32).toNatClampNeg (some q42_59)) (4 : Int32).toNatClampNeg (some q42_71)) (5 : Int32).toNatClampNeg (some q42_83))))))), (q19_11, .inr (4, [.int 0, .int 0, .int 0, .int 0, .int 0, .int 0, .ref (u23_13 0), .ref (u23_13 1)])), (u23_13 0, .inl (cY 0, 5, .inl (fun _ => 0))), (u23_13 1, .inl (cY 1, 6, .inl (fun _ => 0))), (q42_23, .inr (4, [.int 0, .int 0, .int 0, .int 0, .int 0, .int 0, .ref (u46_25 0), .ref (u46_25 1)])), (u46_25 0, .inl (cY 0, 5, .inl (fun _ => 0))), (u46_25 1, .inl (cY 1, 6, .inl (fun _ => 0))), (q42_35, .inr (4, [.int 0, .int 0, .int 0, .int 0, .int 0, .int 0, .ref (u46_37 0), .ref (u46_37 1)])), (u46_37 0, .inl (cY 0, 5, .inl (fun _ => 0))), (u46_37 1, .inl (cY 1, 6, .inl (fun _ => 0))), (q42_47, .inr (4, [.int 0, .int 0, .int 0, .int 0, .int 0, .int 0, .ref (u46_49 0), .ref (u46_49 1)])), (u46_49 0, .inl (cY 0, 5, .inl (fun _ => 0))), (u46_49 1, .inl (cY 1, 6, .inl (fun _ => 0))), (q42_59, .inr (4, [.int 0, .int 0, .int 0, .int 0, .int 0, .int 0, .ref (u46_61 0), .ref (u46_61 1)])), (u46_61 0, .inl (cY 0, 5, .inl (fun _ => 0))), (u46_61 1, .inl (cY 1, 6, .inl (fun _ => 0))), (q42_71, .inr (4, [.int 0, .int 0, .int 0, .int 0, .int 0, .int 0, .ref (u46_73 0), .ref (u46_73 1)])), (u46_73 0, .inl (cY 0, 5, .inl (fun _ => 0))), (u46_73 1, .inl (cY 1, 6, .inl (fun _ => 0))), (q42_83, .inr (4, [.int 0, .int 0, .int 0, .int 0, .int 0, .int 0, .ref (u46_85 0), .ref (u46_85 1)])), (u46_85 0, .inl (cY 0, 5, .inl (fun _ => 0))), (u46_85 1, .inl (cY 1, 6, .inl (fun _ => 0)))] := hD1
  have hS := hS1
  clear hP1 hD1 hS1
  refine lv_iinc (v := 6) (lv' := [(1, .int 6), (0, .ref h0)]) hx hb dX5_init_50 hl (k := 0) rfl (by first | rfl | decide) (by decide) rfl (fun ls hl => ?_)
  refine lv_goto (tgt := 31) hx hb dX5_init_53 (by decide) ?_
  refine lv_iload_n hx hb dX5_init_31 rfl (lv_at hl 0 rfl) ?_
  refine lv_bipush (v := 6) hx hb dX5_init_32 (by decide) ?_
  refine lv_icmp_ge (tgt := 56) hx hb dX5_init_34 (by decide) (fun c_91 => ?_) (fun c_91 => ?_)
  rotate_left
  · exact absurd (by decide) c_91
  have hP1 := hP.arq (g := (fun j => some ((fun k => [h0, q12_8, q42_23, q42_35, q42_47, q42_59, q42_71, q42_83, q19_11, u46_25 0, u46_37 0, u46_49 0, u46_61 0, u46_73 0, u46_85 0, u23_13 0, u46_25 1, u46_37 1, u46_49 1, u46_61 1, u46_73 1, u46_85 1, u23_13 1].getD k 0) (2 + j)))) 1 rfl (fun k hk => by rcases (show k = 0 ∨ k = 1 ∨ k = 2 ∨ k = 3 ∨ k = 4 ∨ k = 5 by omega) with rfl | rfl | rfl | rfl | rfl | rfl <;> rfl)
  have hP1 : va_P (dC, dI) vwCl [(h0, .inr (5, [.int 0, .ref q12_8, .ref q19_11])), (q12_8, .inl (cY 2, 6, .inr (.inr (.inr (.inr (fun j => some ((fun k => [h0, q12_8, q42_23, q42_35, q42_47, q42_59, q42_71, q42_83, q19_11, u46_25 0, u46_37 0, u46_49 0, u46_61 0, u46_73 0, u46_85 0, u23_13 0, u46_25 1, u46_37 1, u46_49 1, u46_61 1, u46_73 1, u46_85 1, u23_13 1].getD k 0) (2 + j)))))))), (q19_11, .inr (4, [.int 0, .int 0, .int 0, .int 0, .int 0, .int 0, .ref (u23_13 0), .ref (u23_13 1)])), (u23_13 0, .inl (cY 0, 5, .inl (fun _ => 0))), (u23_13 1, .inl (cY 1, 6, .inl (fun _ => 0))), (q42_23, .inr (4, [.int 0, .int 0, .int 0, .int 0, .int 0, .int 0, .ref (u46_25 0), .ref (u46_25 1)])), (u46_25 0, .inl (cY 0, 5, .inl (fun _ => 0))), (u46_25 1, .inl (cY 1, 6, .inl (fun _ => 0))), (q42_35, .inr (4, [.int 0, .int 0, .int 0, .int 0, .int 0, .int 0, .ref (u46_37 0), .ref (u46_37 1)])), (u46_37 0, .inl (cY 0, 5, .inl (fun _ => 0))), (u46_37 1, .inl (cY 1, 6, .inl (fun _ => 0))), (q42_47, .inr (4, [.int 0, .int 0, .int 0, .int 0, .int 0, .int 0, .ref (u46_49 0), .ref (u46_49 1)])), (u46_49 0, .inl (cY 0, 5, .inl (fun _ => 0))), (u46_49 1, .inl (cY 1, 6, .inl (fun _ => 0))), (q42_59, .inr (4, [.int 0, .int 0, .int 0, .int 0, .int 0, .int 0, .ref (u46_61 0), .ref (u46_61 1)])), (u46_61 0, .inl (cY 0, 5, .inl (fun _ => 0))), (u46_61 1, .inl (cY 1, 6, .inl (fun _ => 0))), (q42_71, .inr (4, [.int 0, .int 0, .int 0, .int 0, .int 0, .int 0, .ref (u46_73 0), .ref (u46_73 1)])), (u46_73 0, .inl (cY 0, 5, .inl (fun _ => 0))), (u46_73 1, .inl (cY 1, 6, .inl (fun _ => 0))), (q42_83, .inr (4, [.int 0, .int 0, .int 0, .int 0, .int 0, .int 0, .ref (u46_85 0), .ref (u46_85 1)])), (u46_85 0, .inl (cY 0, 5, .inl (fun _ => 0))), (u46_85 1, .inl (cY 1, 6, .inl (fun _ => 0)))] H := hP1
  have hD1 : va_D A [(h0, .inr (5, [.int 0, .ref q12_8, .ref q19_11])), (q12_8, .inl (cY 2, 6, .inr (.inr (.inr (.inr (fun j => some ((fun k => [h0, q12_8, q42_23, q42_35, q42_47, q42_59, q42_71, q42_83, q19_11, u46_25 0, u46_37 0, u46_49 0, u46_61 0, u46_73 0, u46_85 0, u23_13 0, u46_25 1, u46_37 1, u46_49 1, u46_61 1, u46_73 1, u46_85 1, u23_13 1].getD k 0) (2 + j)))))))), (q19_11, .inr (4, [.int 0, .int 0, .int 0, .int 0, .int 0, .int 0, .ref (u23_13 0), .ref (u23_13 1)])), (u23_13 0, .inl (cY 0, 5, .inl (fun _ => 0))), (u23_13 1, .inl (cY 1, 6, .inl (fun _ => 0))), (q42_23, .inr (4, [.int 0, .int 0, .int 0, .int 0, .int 0, .int 0, .ref (u46_25 0), .ref (u46_25 1)])), (u46_25 0, .inl (cY 0, 5, .inl (fun _ => 0))), (u46_25 1, .inl (cY 1, 6, .inl (fun _ => 0))), (q42_35, .inr (4, [.int 0, .int 0, .int 0, .int 0, .int 0, .int 0, .ref (u46_37 0), .ref (u46_37 1)])), (u46_37 0, .inl (cY 0, 5, .inl (fun _ => 0))), (u46_37 1, .inl (cY 1, 6, .inl (fun _ => 0))), (q42_47, .inr (4, [.int 0, .int 0, .int 0, .int 0, .int 0, .int 0, .ref (u46_49 0), .ref (u46_49 1)])), (u46_49 0, .inl (cY 0, 5, .inl (fun _ => 0))), (u46_49 1, .inl (cY 1, 6, .inl (fun _ => 0))), (q42_59, .inr (4, [.int 0, .int 0, .int 0, .int 0, .int 0, .int 0, .ref (u46_61 0), .ref (u46_61 1)])), (u46_61 0, .inl (cY 0, 5, .inl (fun _ => 0))), (u46_61 1, .inl (cY 1, 6, .inl (fun _ => 0))), (q42_71, .inr (4, [.int 0, .int 0, .int 0, .int 0, .int 0, .int 0, .ref (u46_73 0), .ref (u46_73 1)])), (u46_73 0, .inl (cY 0, 5, .inl (fun _ => 0))), (u46_73 1, .inl (cY 1, 6, .inl (fun _ => 0))), (q42_83, .inr (4, [.int 0, .int 0, .int 0, .int 0, .int 0, .int 0, .ref (u46_85 0), .ref (u46_85 1)])), (u46_85 0, .inl (cY 0, 5, .inl (fun _ => 0))), (u46_85 1, .inl (cY 1, 6, .inl (fun _ => 0)))] := va_D.like hD rfl
  clear hP hD
  have hP := hP1
  have hD := hD1
  clear hP1 hD1
  have hP9 := hP.sub (ws' := [(h0, .inr (5, [.int 0, .ref q12_8, .ref q19_11])), (q12_8, .inl (cY 2, 6, .inr (.inr (.inr (.inr (fun j => some ((fun k => [h0, q12_8, q42_23, q42_35, q42_47, q42_59, q42_71, q42_83, q19_11, u46_25 0, u46_37 0, u46_49 0, u46_61 0, u46_73 0, u46_85 0, u23_13 0, u46_25 1, u46_37 1, u46_49 1, u46_61 1, u46_73 1, u46_85 1, u23_13 1].getD k 0) (2 + j)))))))), (q42_23, .inr (4, [.int 0, .int 0, .int 0, .int 0, .int 0, .int 0, .ref (u46_25 0), .ref (u46_25 1)])), (q42_35, .inr (4, [.int 0, .int 0, .int 0, .int 0, .int 0, .int 0, .ref (u46_37 0), .ref (u46_37 1)])), (q42_47, .inr (4, [.int 0, .int 0, .int 0, .int 0, .int 0, .int 0, .ref (u46_49 0), .ref (u46_49 1)])), (q42_59, .inr (4, [.int 0, .int 0, .int 0, .int 0, .int 0, .int 0, .ref (u46_61 0), .ref (u46_61 1)])), (q42_71, .inr (4, [.int 0, .int 0, .int 0, .int 0, .int 0, .int 0, .ref (u46_73 0), .ref (u46_73 1)])), (q42_83, .inr (4, [.int 0, .int 0, .int 0, .int 0, .int 0, .int 0, .ref (u46_85 0), .ref (u46_85 1)])), (q19_11, .inr (4, [.int 0, .int 0, .int 0, .int 0, .int 0, .int 0, .ref (u23_13 0), .ref (u23_13 1)])), (u46_25 0, .inl (cY 0, 5, .inl (fun _ => 0))), (u46_37 0, .inl (cY 0, 5, .inl (fun _ => 0))), (u46_49 0, .inl (cY 0, 5, .inl (fun _ => 0))), (u46_61 0, .inl (cY 0, 5, .inl (fun _ => 0))), (u46_73 0, .inl (cY 0, 5, .inl (fun _ => 0))), (u46_85 0, .inl (cY 0, 5, .inl (fun _ => 0))), (u23_13 0, .inl (cY 0, 5, .inl (fun _ => 0))), (u46_25 1, .inl (cY 1, 6, .inl (fun _ => 0))), (u46_37 1, .inl (cY 1, 6, .inl (fun _ => 0))), (u46_49 1, .inl (cY 1, 6, .inl (fun _ => 0))), (u46_61 1, .inl (cY 1, 6, .inl (fun _ => 0))), (u46_73 1, .inl (cY 1, 6, .inl (fun _ => 0))), (u46_85 1, .inl (cY 1, 6, .inl (fun _ => 0))), (u23_13 1, .inl (cY 1, 6, .inl (fun _ => 0)))]) [0, 1, 5, 8, 11, 14, 17, 20, 2, 6, 9, 12, 15, 18, 21, 3, 7, 10, 13, 16, 19, 22, 4] rfl
  have hD9 := hD.sub (ws' := [(h0, .inr (5, [.int 0, .ref q12_8, .ref q19_11])), (q12_8, .inl (cY 2, 6, .inr (.inr (.inr (.inr (fun j => some ((fun k => [h0, q12_8, q42_23, q42_35, q42_47, q42_59, q42_71, q42_83, q19_11, u46_25 0, u46_37 0, u46_49 0, u46_61 0, u46_73 0, u46_85 0, u23_13 0, u46_25 1, u46_37 1, u46_49 1, u46_61 1, u46_73 1, u46_85 1, u23_13 1].getD k 0) (2 + j)))))))), (q42_23, .inr (4, [.int 0, .int 0, .int 0, .int 0, .int 0, .int 0, .ref (u46_25 0), .ref (u46_25 1)])), (q42_35, .inr (4, [.int 0, .int 0, .int 0, .int 0, .int 0, .int 0, .ref (u46_37 0), .ref (u46_37 1)])), (q42_47, .inr (4, [.int 0, .int 0, .int 0, .int 0, .int 0, .int 0, .ref (u46_49 0), .ref (u46_49 1)])), (q42_59, .inr (4, [.int 0, .int 0, .int 0, .int 0, .int 0, .int 0, .ref (u46_61 0), .ref (u46_61 1)])), (q42_71, .inr (4, [.int 0, .int 0, .int 0, .int 0, .int 0, .int 0, .ref (u46_73 0), .ref (u46_73 1)])), (q42_83, .inr (4, [.int 0, .int 0, .int 0, .int 0, .int 0, .int 0, .ref (u46_85 0), .ref (u46_85 1)])), (q19_11, .inr (4, [.int 0, .int 0, .int 0, .int 0, .int 0, .int 0, .ref (u23_13 0), .ref (u23_13 1)])), (u46_25 0, .inl (cY 0, 5, .inl (fun _ => 0))), (u46_37 0, .inl (cY 0, 5, .inl (fun _ => 0))), (u46_49 0, .inl (cY 0, 5, .inl (fun _ => 0))), (u46_61 0, .inl (cY 0, 5, .inl (fun _ => 0))), (u46_73 0, .inl (cY 0, 5, .inl (fun _ => 0))), (u46_85 0, .inl (cY 0, 5, .inl (fun _ => 0))), (u23_13 0, .inl (cY 0, 5, .inl (fun _ => 0))), (u46_25 1, .inl (cY 1, 6, .inl (fun _ => 0))), (u46_37 1, .inl (cY 1, 6, .inl (fun _ => 0))), (u46_49 1, .inl (cY 1, 6, .inl (fun _ => 0))), (u46_61 1, .inl (cY 1, 6, .inl (fun _ => 0))), (u46_73 1, .inl (cY 1, 6, .inl (fun _ => 0))), (u46_85 1, .inl (cY 1, 6, .inl (fun _ => 0))), (u23_13 1, .inl (cY 1, 6, .inl (fun _ => 0)))]) [0, 1, 5, 8, 11, 14, 17, 20, 2, 6, 9, 12, 15, 18, 21, 3, 7, 10, 13, 16, 19, 22, 4] (by decide +kernel) rfl
  refine W.widen (k := 22) (n := 139) (Nat.le_of_ble_eq_true rfl) (Nat.le_of_ble_eq_true rfl) ?_
  exact W.vret hx hb hr (fun t ht hW => ⟨⟨(fun k => [h0, q12_8, q42_23, q42_35, q42_47, q42_59, q42_71, q42_83, q19_11, u46_25 0, u46_37 0, u46_49 0, u46_61 0, u46_73 0, u46_85 0, u23_13 0, u46_25 1, u46_37 1, u46_49 1, u46_61 1, u46_73 1, u46_85 1, u23_13 1].getD k 0), rfl, rfl, wPost_of hP9 hD9 ht⟩, hS.F ht⟩) hS.2.2 dX5_init_56
theorem inw_X3_init_X3 : ∀ w ∈ u_ws RX3 TX3 7, w ∈ wsX3_init := fun _ h => List.mem_cons_of_mem _ (List.mem_append_left _ (List.mem_append_left _ (List.mem_append_right _ h)))
theorem inw_X3_init_X1 : ∀ w ∈ u_ws RX1 TX1 3, w ∈ wsX3_init := fun _ h => List.mem_cons_of_mem _ (List.mem_append_left _ (List.mem_append_right _ h))
theorem c_X3_init (l : Launch) (dC : Nat → ClassId) (dI : Nat → Nat → Nat) (cY : Nat → ClassId) (h0 : Nat) (ql : Nat) (sz : Nat) : Met l yX3_init wsX3_init ({ frames := 3, cells := 21, slots := 223, locals := 62 } : Room) (va_Pc [.ref h0, .ref ql] (iPre (dC, dI) (tyL cY) [(h0, .inr (3, [.int 0, .null, .null, .null, .null, .null, .int 0]))] sz)) (va_Qv (fun u : Nat → Nat => True) (fun u : Nat → Nat => wPost (dC, dI) [(h0, .inr (3, [.int 0, .ref ql, .ref (u 18), .ref (u 15), .ref (u 16), .ref (u 17), .int 0])), (u 15, .inl (cY 3, 5, .inr (.inr (.inr (.inr (fun j => some (u j))))))), (u 16, .inl (cY 0, 4, .inl (fun _ => 0))), (u 17, .inl (cY 0, 4, .inl (fun _ => 0))), (u 0, .inr (1, [.ref ql, .ref (u 5), .ref (u 10)])), (u 5, .inr (2, figL (X2_init_w0 (fun _ => 0) 1))), (u 10, .inr (2, figL (X2_init_w0 (fun _ => 0) 0))), (u 1, .inr (1, [.ref ql, .ref (u 6), .ref (u 11)])), (u 6, .inr (2, figL (X2_init_w0 (fun _ => 0) 1))), (u 11, .inr (2, figL (X2_init_w0 (fun _ => 0) 0))), (u 2, .inr (1, [.ref ql, .ref (u 7), .ref (u 12)])), (u 7, .inr (2, figL (X2_init_w0 (fun _ => 0) 1))), (u 12, .inr (2, figL (X2_init_w0 (fun _ => 0) 0))), (u 3, .inr (1, [.ref ql, .ref (u 8), .ref (u 13)])), (u 8, .inr (2, figL (X2_init_w0 (fun _ => 0) 1))), (u 13, .inr (2, figL (X2_init_w0 (fun _ => 0) 0))), (u 4, .inr (1, [.ref ql, .ref (u 9), .ref (u 14)])), (u 9, .inr (2, figL (X2_init_w0 (fun _ => 0) 1))), (u 14, .inr (2, figL (X2_init_w0 (fun _ => 0) 0))), (u 18, .inr (1, [.ref ql, .ref (u 19), .ref (u 20)])), (u 19, .inr (2, figL (X2_init_w0 (fun _ => 0) 1))), (u 20, .inr (2, figL (X2_init_w0 (fun _ => 0) 0)))] (va_A [(h0, .inr (3, [.int 0, .null, .null, .null, .null, .null, .int 0]))] sz) ()) (va_A [(h0, .inr (3, [.int 0, .null, .null, .null, .null, .null, .int 0]))] sz)) 21 223 (va_A [(h0, .inr (3, [.int 0, .null, .null, .null, .null, .null, .int 0]))] sz) := by
  refine Met.ofW (cc := cX3_init) (maxL := 3) (ret := none) (by decide) rfl ?_
  intro p e s m args below meth c s₁ B hml hv
  obtain ⟨rfl, ⟨hsz, hP, hK, hN, hD0⟩, hO⟩ := hv
  have hx := B.exec
  have hb := B.bytes
  have hr := B.returns
  have hts := atoms_spec (ws := wsX3_init) B.pre
  have hown : s.vm.findClass RX3 = some m.cls := findClass_of_methodNamed B.named
  have hlocks := B.notSynchronized
  have hin : meth.name = "<init>" := (name_of_methodNamed B.named B.method).1
  subst hsz
  have hD := hD0.self (sz := s.heap.size)
  generalize hAe : va_A [(h0, .inr (3, [.int 0, .null, .null, .null, .null, .null, .int 0]))] s.heap.size = A at hD ⊢
  have hA : ∀ q : Nat, s.heap.size ≤ q → A q := fun q h => by rw [← hAe]; exact Or.inr h
  have hS : va_S A s.heap s.heap [] := va_S.rf
  have hP : va_P (dC, dI) vwCl [(h0, .inr (3, [.int 0, .null, .null, .null, .null, .null, .int 0]))] s.heap := hP
  have hl := lv_entry ([.ref h0, .ref ql]) (n := 3) (Nat.le_of_ble_eq_true rfl)
  rw [lg_entry_eq]
  generalize (lg_sl ([.ref h0, .ref ql]) ++ List.replicate (3 - (lg_sl ([.ref h0, .ref ql])).length) Slot.unset).toArray = ls at hl ⊢
  have hl : lv_has ls 3 [(0, .ref h0), (1, .ref ql)] := hl
  refine lv_aload_n hx hb dX3_init_0 rfl (lv_at hl 0 rfl) ?_
  refine W.objInit hx hb hown (hts (.methodLink RX3 3 objectInit) (List.mem_of_getElem? (i := 1) rfl)) (hts (.instanceMethod objectInit) (List.mem_of_getElem? (i := 2) rfl)) (hts (.code objectInit ⟨#[0xb1]⟩ 1 none) (List.mem_of_getElem? (i := 3) rfl)) rfl (by rw [hml]; exact hl.1) rfl dX3_init_1 (Nat.le_of_ble_eq_true rfl) (Nat.le_of_ble_eq_true rfl) ?_
  refine W.eq (g2 := F0 m 4 ls []) rfl ?_
  refine lv_aload_n hx hb dX3_init_4 rfl (lv_at hl 0 rfl) ?_
  refine lv_iconst (v := 0) hx hb dX3_init_5 (by decide) ?_
  refine va_put (D := (dC, dI)) (ci := 3) (v := .int 0) (ty := .int) (C := RX3) (T := TX3) (N := 7) hx hb hts inw_X3_init_X3 tyX3 tyX3_ok nmX3 hown hK hP hD hS 0 rfl rfl 0 (by decide) (hts (.fieldLink RX3 9 "DuelFrames$Lab" "bestLoss" "I") (List.mem_of_getElem? (i := 4) rfl)) (fun _ h9 => h9) rfl (by decide +kernel) rfl rfl (Nat.le_of_ble_eq_true rfl) dX3_init_6 (fun H locs hP1 hD1 hS1 => ?_)
  clear hP hD hS
  have hP : va_P (dC, dI) vwCl [(h0, .inr (3, [.int 0, .null, .null, .null, .null, .null, .int 0]))] H := hP1
  have hD : va_D A [(h0, .inr (3, [.int 0, .null, .null, .null, .null, .null, .int 0]))] := hD1
  have hS := hS1
  clear hP1 hD1 hS1
  refine lv_aload_n hx hb dX3_init_9 rfl (lv_at hl 0 rfl) ?_
  refine lv_iconst (v := 5) hx hb dX3_init_10 (by decide) ?_
  refine va_newq (D := (dC, dI)) (C := RX1) (N' := 5) hx hb hown (hts (.classLink RX3 15 RX1) (List.mem_of_getElem? (i := 5) rfl)) hO.2 hK hP hD hS hA (by decide) (by decide +kernel) (Nat.le_of_ble_eq_true rfl) (Nat.le_of_ble_eq_true rfl) (Nat.le_of_ble_eq_true rfl) dX3_init_11 (fun q11_8 cA H hK1 hP1 hD1 hS1 => ?_)
  obtain rfl : cA = cY 3 := ra_o (hK1.2 5 (cA, .object RX1) rfl).2 (hK1.2 3 (cY 3, .object RX1) rfl).2
  clear hK1
  clear hP hD hS
  have hP : va_P (dC, dI) vwCl [(h0, .inr (3, [.int 0, .null, .null, .null, .null, .null, .int 0])), (q11_8, .inl (cY 3, 5, .inr (.inr (.inr (.inr (fun _ => none))))))] H := hP1
  have hD : va_D A [(h0, .inr (3, [.int 0, .null, .null, .null, .null, .null, .int 0])), (q11_8, .inl (cY 3, 5, .inr (.inr (.inr (.inr (fun _ => none))))))] := hD1
  have hS := hS1
  clear hP1 hD1 hS1
  refine W.widen (k := 1) (n := 5) (Nat.le_of_ble_eq_true rfl) (Nat.le_of_ble_eq_true rfl) ?_
  refine va_putF (D := (dC, dI)) (ci := 3) (v := .ref q11_8) (ty := (.array (.object "DuelFrames$Duel"))) (C := RX3) (T := TX3) (N := 7) hx hb hts inw_X3_init_X3 tyX3 tyX3_ok nmX3 hown hK hP hD hS 0 rfl rfl 3 (by decide) (hts (.fieldLink RX3 17 "DuelFrames$Lab" "behindHits" "[LDuelFrames$Duel;") (List.mem_of_getElem? (i := 6) rfl)) (fun _ h9 => h9) rfl hin rfl (by decide +kernel) rfl rfl (Nat.le_of_ble_eq_true rfl) dX3_init_14 (fun H locs hP1 hD1 hS1 => ?_)
  clear hP hD hS
  have hP : va_P (dC, dI) vwCl [(h0, .inr (3, [.int 0, .null, .null, .ref q11_8, .null, .null, .int 0])), (q11_8, .inl (cY 3, 5, .inr (.inr (.inr (.inr (fun _ => none))))))] H := hP1
  have hD : va_D A [(h0, .inr (3, [.int 0, .null, .null, .ref q11_8, .null, .null, .int 0])), (q11_8, .inl (cY 3, 5, .inr (.inr (.inr (.inr (fun _ => none))))))] := hD1
  have hS := hS1
  clear hP1 hD1 hS1
  refine lv_aload_n hx hb dX3_init_17 rfl (lv_at hl 0 rfl) ?_
  refine lv_iconst (v := 4) hx hb dX3_init_18 (by decide) ?_
  refine va_newa (D := (dC, dI)) (atype := .int) (ty := .int) (a0 := (4, .inl (fun _ => 0))) (N' := 4) hx hb (hts (.arrayClass .int) (List.mem_of_getElem? (i := 7) rfl)) rfl hK hP hD hS hA (fun _ => rfl) (by decide) (by decide +kernel) (Nat.le_of_ble_eq_true rfl) (Nat.le_of_ble_eq_true rfl) (Nat.le_of_ble_eq_true rfl) dX3_init_19 (fun q19_12 cA H hK1 hP1 hD1 hS1 => ?_)
  obtain rfl : cA = cY 0 := ra_i (hK1.2 5 (cA, .int) rfl).2 (hK1.2 0 (cY 0, .int) rfl).2
  clear hK1
  clear hP hD hS
  have hP : va_P (dC, dI) vwCl [(h0, .inr (3, [.int 0, .null, .null, .ref q11_8, .null, .null, .int 0])), (q11_8, .inl (cY 3, 5, .inr (.inr (.inr (.inr (fun _ => none)))))), (q19_12, .inl (cY 0, 4, .inl (fun _ => 0)))] H := hP1
  have hD : va_D A [(h0, .inr (3, [.int 0, .null, .null, .ref q11_8, .null, .null, .int 0])), (q11_8, .inl (cY 3, 5, .inr (.inr (.inr (.inr (fun _ => none)))))), (q19_12, .inl (cY 0, 4, .inl (fun _ => 0)))] := hD1
  have hS := hS1
  clear hP1 hD1 hS1
  refine W.widen (k := 2) (n := 9) (Nat.le_of_ble_eq_true rfl) (Nat.le_of_ble_eq_true rfl) ?_
  refine va_putF (D := (dC, dI)) (ci := 3) (v := .ref q19_12) (ty := (.array .int)) (C := RX3) (T := TX3) (N := 7) hx hb hts inw_X3_init_X3 tyX3 tyX3_ok nmX3 hown hK hP hD hS 0 rfl rfl 4 (by decide) (hts (.fieldLink RX3 21 "DuelFrames$Lab" "row" "[I") (List.mem_of_getElem? (i := 8) rfl)) (fun _ h9 => h9) rfl hin rfl (by decide +kernel) rfl rfl (Nat.le_of_ble_eq_true rfl) dX3_init_21 (fun H locs hP1 hD1 hS1 => ?_)
  clear hP hD hS
  have hP : va_P (dC, dI) vwCl [(h0, .inr (3, [.int 0, .null, .null, .ref q11_8, .ref q19_12, .null, .int 0])), (q11_8, .inl (cY 3, 5, .inr (.inr (.inr (.inr (fun _ => none)))))), (q19_12, .inl (cY 0, 4, .inl (fun _ => 0)))] H := hP1
  have hD : va_D A [(h0, .inr (3, [.int 0, .null, .null, .ref q11_8, .ref q19_12, .null, .int 0])), (q11_8, .inl (cY 3, 5, .inr (.inr (.inr (.inr (fun _ => none)))))), (q19_12, .inl (cY 0, 4, .inl (fun _ => 0)))] := hD1
  have hS := hS1
  clear hP1 hD1 hS1
  refine lv_aload_n hx hb dX3_init_24 rfl (lv_at hl 0 rfl) ?_
  refine lv_iconst (v := 4) hx hb dX3_init_25 (by decide) ?_
  refine va_newa (D := (dC, dI)) (atype := .int) (ty := .int) (a0 := (4, .inl (fun _ => 0))) (N' := 4) hx hb (hts (.arrayClass .int) (List.mem_of_getElem? (i := 7) rfl)) rfl hK hP hD hS hA (fun _ => rfl) (by decide) (by decide +kernel) (Nat.le_of_ble_eq_true rfl) (Nat.le_of_ble_eq_true rfl) (Nat.le_of_ble_eq_true rfl) dX3_init_26 (fun q26_16 cA H hK1 hP1 hD1 hS1 => ?_)
  obtain rfl : cA = cY 0 := ra_i (hK1.2 5 (cA, .int) rfl).2 (hK1.2 0 (cY 0, .int) rfl).2
  clear hK1
  clear hP hD hS
  have hP : va_P (dC, dI) vwCl [(h0, .inr (3, [.int 0, .null, .null, .ref q11_8, .ref q19_12, .null, .int 0])), (q11_8, .inl (cY 3, 5, .inr (.inr (.inr (.inr (fun _ => none)))))), (q19_12, .inl (cY 0, 4, .inl (fun _ => 0))), (q26_16, .inl (cY 0, 4, .inl (fun _ => 0)))] H := hP1
  have hD : va_D A [(h0, .inr (3, [.int 0, .null, .null, .ref q11_8, .ref q19_12, .null, .int 0])), (q11_8, .inl (cY 3, 5, .inr (.inr (.inr (.inr (fun _ => none)))))), (q19_12, .inl (cY 0, 4, .inl (fun _ => 0))), (q26_16, .inl (cY 0, 4, .inl (fun _ => 0)))] := hD1
  have hS := hS1
  clear hP1 hD1 hS1
  refine W.widen (k := 3) (n := 13) (Nat.le_of_ble_eq_true rfl) (Nat.le_of_ble_eq_true rfl) ?_
  refine va_putF (D := (dC, dI)) (ci := 3) (v := .ref q26_16) (ty := (.array .int)) (C := RX3) (T := TX3) (N := 7) hx hb hts inw_X3_init_X3 tyX3 tyX3_ok nmX3 hown hK hP hD hS 0 rfl rfl 5 (by decide) (hts (.fieldLink RX3 25 "DuelFrames$Lab" "best" "[I") (List.mem_of_getElem? (i := 9) rfl)) (fun _ h9 => h9) rfl hin rfl (by decide +kernel) rfl rfl (Nat.le_of_ble_eq_true rfl) dX3_init_28 (fun H locs hP1 hD1 hS1 => ?_)
  clear hP hD hS
  have hP : va_P (dC, dI) vwCl [(h0, .inr (3, [.int 0, .null, .null, .ref q11_8, .ref q19_12, .ref q26_16, .int 0])), (q11_8, .inl (cY 3, 5, .inr (.inr (.inr (.inr (fun _ => none)))))), (q19_12, .inl (cY 0, 4, .inl (fun _ => 0))), (q26_16, .inl (cY 0, 4, .inl (fun _ => 0)))] H := hP1
  have hD : va_D A [(h0, .inr (3, [.int 0, .null, .null, .ref q11_8, .ref q19_12, .ref q26_16, .int 0])), (q11_8, .inl (cY 3, 5, .inr (.inr (.inr (.inr (fun _ => none)))))), (q19_12, .inl (cY 0, 4, .inl (fun _ => 0))), (q26_16, .inl (cY 0, 4, .inl (fun _ => 0)))] := hD1
  have hS := hS1
  clear hP1 hD1 hS1
  refine lv_aload_n hx hb dX3_init_31 rfl (lv_at hl 0 rfl) ?_
  refine lv_iconst (v := 0) hx hb dX3_init_32 (by decide) ?_
  refine va_put (D := (dC, dI)) (ci := 3) (v := .int 0) (ty := .int) (C := RX3) (T := TX3) (N := 7) hx hb hts inw_X3_init_X3 tyX3 tyX3_ok nmX3 hown hK hP hD hS 0 rfl rfl 6 (by decide) (hts (.fieldLink RX3 28 "DuelFrames$Lab" "bestHits" "I") (List.mem_of_getElem? (i := 10) rfl)) (fun _ h9 => h9) rfl (by decide +kernel) rfl rfl (Nat.le_of_ble_eq_true rfl) dX3_init_33 (fun H locs hP1 hD1 hS1 => ?_)
  clear hP hD hS
  have hP : va_P (dC, dI) vwCl [(h0, .inr (3, [.int 0, .null, .null, .ref q11_8, .ref q19_12, .ref q26_16, .int 0])), (q11_8, .inl (cY 3, 5, .inr (.inr (.inr (.inr (fun _ => none)))))), (q19_12, .inl (cY 0, 4, .inl (fun _ => 0))), (q26_16, .inl (cY 0, 4, .inl (fun _ => 0)))] H := hP1
  have hD : va_D A [(h0, .inr (3, [.int 0, .null, .null, .ref q11_8, .ref q19_12, .ref q26_16, .int 0])), (q11_8, .inl (cY 3, 5, .inr (.inr (.inr (.inr (fun _ => none)))))), (q19_12, .inl (cY 0, 4, .inl (fun _ => 0))), (q26_16, .inl (cY 0, 4, .inl (fun _ => 0)))] := hD1
  have hS := hS1
  clear hP1 hD1 hS1
  refine lv_aload_n hx hb dX3_init_36 rfl (lv_at hl 0 rfl) ?_
  refine lv_aload_n hx hb dX3_init_37 rfl (lv_at hl 1 rfl) ?_
  refine va_putF (D := (dC, dI)) (ci := 3) (v := .ref ql) (ty := (.object "DuelFrames$MoveList")) (C := RX3) (T := TX3) (N := 7) hx hb hts inw_X3_init_X3 tyX3 tyX3_ok nmX3 hown hK hP hD hS 0 rfl rfl 1 (by decide) (hts (.fieldLink RX3 31 "DuelFrames$Lab" "moves" "LDuelFrames$MoveList;") (List.mem_of_getElem? (i := 11) rfl)) (fun _ h9 => h9) rfl hin rfl (by decide +kernel) rfl rfl (Nat.le_of_ble_eq_true rfl) dX3_init_38 (fun H locs hP1 hD1 hS1 => ?_)
  clear hP hD hS
  have hP : va_P (dC, dI) vwCl [(h0, .inr (3, [.int 0, .ref ql, .null, .ref q11_8, .ref q19_12, .ref q26_16, .int 0])), (q11_8, .inl (cY 3, 5, .inr (.inr (.inr (.inr (fun _ => none)))))), (q19_12, .inl (cY 0, 4, .inl (fun _ => 0))), (q26_16, .inl (cY 0, 4, .inl (fun _ => 0)))] H := hP1
  have hD : va_D A [(h0, .inr (3, [.int 0, .ref ql, .null, .ref q11_8, .ref q19_12, .ref q26_16, .int 0])), (q11_8, .inl (cY 3, 5, .inr (.inr (.inr (.inr (fun _ => none)))))), (q19_12, .inl (cY 0, 4, .inl (fun _ => 0))), (q26_16, .inl (cY 0, 4, .inl (fun _ => 0)))] := hD1
  have hS := hS1
  clear hP1 hD1 hS1
  refine lv_aload_n hx hb dX3_init_41 rfl (lv_at hl 0 rfl) ?_
  refine va_new (D := (dC, dI)) (ci := 1) (fs := [.null, .null, .null]) (C := RX1) (T := TX1) (N := 3) hx hb hts inw_X3_init_X1 tyX1 tyX1_ok hown (hts (.classLink RX3 15 RX1) (List.mem_of_getElem? (i := 5) rfl)) (hts (.instantiable RX1 3) (List.mem_of_getElem? (i := 12) rfl)) (hts (.initialized RX1) (List.mem_of_getElem? (i := 13) rfl)) hK hP hD hS hA rfl (fun j hj => by rcases (show j = 0 ∨ j = 1 ∨ j = 2 by omega) with rfl | rfl | rfl <;> rfl) (Nat.le_of_ble_eq_true rfl) (Nat.le_of_ble_eq_true rfl) dX3_init_42 (fun q42_25 H hP1 hD1 hS1 => ?_)
  clear hP hD hS
  have hP : va_P (dC, dI) vwCl [(h0, .inr (3, [.int 0, .ref ql, .null, .ref q11_8, .ref q19_12, .ref q26_16, .int 0])), (q11_8, .inl (cY 3, 5, .inr (.inr (.inr (.inr (fun _ => none)))))), (q19_12, .inl (cY 0, 4, .inl (fun _ => 0))), (q26_16, .inl (cY 0, 4, .inl (fun _ => 0))), (q42_25, .inr (1, [.null, .null, .null]))] H := hP1
  have hD : va_D A [(h0, .inr (3, [.int 0, .ref ql, .null, .ref q11_8, .ref q19_12, .ref q26_16, .int 0])), (q11_8, .inl (cY 3, 5, .inr (.inr (.inr (.inr (fun _ => none)))))), (q19_12, .inl (cY 0, 4, .inl (fun _ => 0))), (q26_16, .inl (cY 0, 4, .inl (fun _ => 0))), (q42_25, .inr (1, [.null, .null, .null]))] := hD1
  have hS := hS1
  clear hP1 hD1 hS1
  refine W.widen (k := 4) (n := 16) (Nat.le_of_ble_eq_true rfl) (Nat.le_of_ble_eq_true rfl) ?_
  refine lv_dup hx hb dX3_init_45 rfl ?_
  refine lv_aload_n hx hb dX3_init_46 rfl (lv_at hl 1 rfl) ?_
  have hPc := hP.sub (ws' := [(q42_25, .inr (1, [.null, .null, .null]))]) [4] rfl
  have hDc := hD.sub (ws' := [(q42_25, .inr (1, [.null, .null, .null]))]) [4] (by decide) rfl
  have hFc := va_free (wc := [(q42_25, .inr (1, [.null, .null, .null]))]) hD hS hA [4] rfl
  refine va_callv (va_runI (As := [.ref ql]) (rest := [.ref q42_25, .ref h0]) ⟨hx, hb, hml, hown, hts⟩ (c_X1_init l dC dI cY q42_25 ql H.size) (cwI 1 hts gX3_init_X1_init rfl rfl rfl (hts (.initialized RX1) (List.mem_of_getElem? (i := 13) rfl)) (hts (.methodLink RX3 35 yX1_init) (List.mem_of_getElem? (i := 15) rfl)) (hts (.instanceMethod yX1_init) (List.mem_of_getElem? (i := 16) rfl)) rfl (by decide +kernel) ⟨(Nat.le_of_ble_eq_true rfl), (Nat.le_of_ble_eq_true rfl)⟩) ⟨blindW, fun U hU hW => ⟨rfl, wPre_of hPc hK hN hDc U hU hW⟩⟩ rfl rfl hl.1 rfl (lv_room (Nat.le_of_ble_eq_true rfl)) dX3_init_47 ⟨(Nat.le_of_ble_eq_true rfl), (Nat.le_of_ble_eq_true rfl)⟩) hS (fun q _ h => hFc q h) hFc (fun u47_28 t H1 locs ht hvm hw hB hz1 hk1 hS1 => ?_)
  have hJ := wJoin (wr := [(h0, .inr (3, [.int 0, .ref ql, .null, .ref q11_8, .ref q19_12, .ref q26_16, .int 0])), (q11_8, .inl (cY 3, 5, .inr (.inr (.inr (.inr (fun _ => none)))))), (q19_12, .inl (cY 0, 4, .inl (fun _ => 0))), (q26_16, .inl (cY 0, 4, .inl (fun _ => 0)))]) (w1 := [(q42_25, .inr (1, [.ref ql, .ref (u47_28 0), .ref (u47_28 1)])), (u47_28 0, .inr (2, figL (X2_init_w0 (fun _ => 0) 1))), (u47_28 1, .inr (2, figL (X2_init_w0 (fun _ => 0) 0)))]) (wn := [(h0, .inr (3, [.int 0, .ref ql, .null, .ref q11_8, .ref q19_12, .ref q26_16, .int 0])), (q11_8, .inl (cY 3, 5, .inr (.inr (.inr (.inr (fun _ => none)))))), (q19_12, .inl (cY 0, 4, .inl (fun _ => 0))), (q26_16, .inl (cY 0, 4, .inl (fun _ => 0))), (q42_25, .inr (1, [.ref ql, .ref (u47_28 0), .ref (u47_28 1)])), (u47_28 0, .inr (2, figL (X2_init_w0 (fun _ => 0) 1))), (u47_28 1, .inr (2, figL (X2_init_w0 (fun _ => 0) 0)))]) hP hD [4] [0, 1, 2, 3] rfl rfl (by decide +kernel) (by decide +kernel) hk1 hFc hB ht [0, 1, 2, 3, 4, 5, 6] rfl (by decide +kernel)
  clear hB hk1 hFc hPc hDc hP hD hS hz1 hvm ht t
  obtain ⟨hP1, hD1⟩ := hJ
  generalize H1 = H at hP1 hS1 ⊢
  have hP : va_P (dC, dI) vwCl [(h0, .inr (3, [.int 0, .ref ql, .null, .ref q11_8, .ref q19_12, .ref q26_16, .int 0])), (q11_8, .inl (cY 3, 5, .inr (.inr (.inr (.inr (fun _ => none)))))), (q19_12, .inl (cY 0, 4, .inl (fun _ => 0))), (q26_16, .inl (cY 0, 4, .inl (fun _ => 0))), (q42_25, .inr (1, [.ref ql, .ref (u47_28 0), .ref (u47_28 1)])), (u47_28 0, .inr (2, figL (X2_init_w0 (fun _ => 0) 1))), (u47_28 1, .inr (2, figL (X2_init_w0 (fun _ => 0) 0)))] H := hP1
  have hD : va_D A [(h0, .inr (3, [.int 0, .ref ql, .null, .ref q11_8, .ref q19_12, .ref q26_16, .int 0])), (q11_8, .inl (cY 3, 5, .inr (.inr (.inr (.inr (fun _ => none)))))), (q19_12, .inl (cY 0, 4, .inl (fun _ => 0))), (q26_16, .inl (cY 0, 4, .inl (fun _ => 0))), (q42_25, .inr (1, [.ref ql, .ref (u47_28 0), .ref (u47_28 1)])), (u47_28 0, .inr (2, figL (X2_init_w0 (fun _ => 0) 1))), (u47_28 1, .inr (2, figL (X2_init_w0 (fun _ => 0) 0)))] := hD1
  have hS := hS1
  clear hP1 hD1 hS1
  refine W.widen (k := 6) (n := 48) (Nat.le_of_ble_eq_true rfl) (Nat.le_of_ble_eq_true rfl) ?_
  refine va_putF (D := (dC, dI)) (ci := 3) (v := .ref q42_25) (ty := (.object "DuelFrames$Duel")) (C := RX3) (T := TX3) (N := 7) hx hb hts inw_X3_init_X3 tyX3 tyX3_ok nmX3 hown hK hP hD hS 0 rfl rfl 2 (by decide) (hts (.fieldLink RX3 38 "DuelFrames$Lab" "trial" "LDuelFrames$Duel;") (List.mem_of_getElem? (i := 14) rfl)) (fun _ h9 => h9) rfl hin rfl (by decide +kernel) rfl rfl (Nat.le_of_ble_eq_true rfl) dX3_init_50 (fun H locs hP1 hD1 hS1 => ?_)
  clear hP hD hS
  have hP : va_P (dC, dI) vwCl [(h0, .inr (3, [.int 0, .ref ql, .ref q42_25, .ref q11_8, .ref q19_12, .ref q26_16, .int 0])), (q11_8, .inl (cY 3, 5, .inr (.inr (.inr (.inr (fun _ => none)))))), (q19_12, .inl (cY 0, 4, .inl (fun _ => 0))), (q26_16, .inl (cY 0, 4, .inl (fun _ => 0))), (q42_25, .inr (1, [.ref ql, .ref (u47_28 0), .ref (u47_28 1)])), (u47_28 0, .inr (2, figL (X2_init_w0 (fun _ => 0) 1))), (u47_28 1, .inr (2, figL (X2_init_w0 (fun _ => 0) 0)))] H := hP1
  have hD : va_D A [(h0, .inr (3, [.int 0, .ref ql, .ref q42_25, .ref q11_8, .ref q19_12, .ref q26_16, .int 0])), (q11_8, .inl (cY 3, 5, .inr (.inr (.inr (.inr (fun _ => none)))))), (q19_12, .inl (cY 0, 4, .inl (fun _ => 0))), (q26_16, .inl (cY 0, 4, .inl (fun _ => 0))), (q42_25, .inr (1, [.ref ql, .ref (u47_28 0), .ref (u47_28 1)])), (u47_28 0, .inr (2, figL (X2_init_w0 (fun _ => 0) 1))), (u47_28 1, .inr (2, figL (X2_init_w0 (fun _ => 0) 0)))] := hD1
  have hS := hS1
  clear hP1 hD1 hS1
  refine lv_iconst (v := 0) hx hb dX3_init_53 (by decide) ?_
  refine lv_istore_n (lv' := [(2, .int 0), (0, .ref h0), (1, .ref ql)]) hx hb dX3_init_54 rfl hl (by decide) rfl (fun ls hl => ?_)
  refine lv_iload_n hx hb dX3_init_55 rfl (lv_at hl 0 rfl) ?_
  refine lv_iconst (v := 4) hx hb dX3_init_56 (by decide) ?_
  refine lv_icmp_gt (tgt := 80) hx hb dX3_init_57 (by decide) (fun c_34 => ?_) (fun c_34 => ?_)
  · exact absurd c_34 (by decide)
  refine lv_aload_n hx hb dX3_init_60 rfl (lv_at hl 1 rfl) ?_
  refine va_get (D := (dC, dI)) (ci := 3) (v := .ref q11_8) (C := RX3) (T := TX3) (N := 7) hx hb hts inw_X3_init_X3 hown hK hP 0 rfl rfl 3 (by decide) (hts (.fieldLink RX3 17 "DuelFrames$Lab" "behindHits" "[LDuelFrames$Duel;") (List.mem_of_getElem? (i := 6) rfl)) (fun _ h9 => h9) rfl dX3_init_61 ?_
  refine lv_iload_n hx hb dX3_init_64 rfl (lv_at hl 0 rfl) ?_
  refine va_new (D := (dC, dI)) (ci := 1) (fs := [.null, .null, .null]) (C := RX1) (T := TX1) (N := 3) hx hb hts inw_X3_init_X1 tyX1 tyX1_ok hown (hts (.classLink RX3 15 RX1) (List.mem_of_getElem? (i := 5) rfl)) (hts (.instantiable RX1 3) (List.mem_of_getElem? (i := 12) rfl)) (hts (.initialized RX1) (List.mem_of_getElem? (i := 13) rfl)) hK hP hD hS hA rfl (fun j hj => by rcases (show j = 0 ∨ j = 1 ∨ j = 2 by omega) with rfl | rfl | rfl <;> rfl) (Nat.le_of_ble_eq_true rfl) (Nat.le_of_ble_eq_true rfl) dX3_init_65 (fun q65_38 H hP1 hD1 hS1 => ?_)
  clear hP hD hS
  have hP : va_P (dC, dI) vwCl [(h0, .inr (3, [.int 0, .ref ql, .ref q42_25, .ref q11_8, .ref q19_12, .ref q26_16, .int 0])), (q11_8, .inl (cY 3, 5, .inr (.inr (.inr (.inr (fun _ => none)))))), (q19_12, .inl (cY 0, 4, .inl (fun _ => 0))), (q26_16, .inl (cY 0, 4, .inl (fun _ => 0))), (q42_25, .inr (1, [.ref ql, .ref (u47_28 0), .ref (u47_28 1)])), (u47_28 0, .inr (2, figL (X2_init_w0 (fun _ => 0) 1))), (u47_28 1, .inr (2, figL (X2_init_w0 (fun _ => 0) 0))), (q65_38, .inr (1, [.null, .null, .null]))] H := hP1
  have hD : va_D A [(h0, .inr (3, [.int 0, .ref ql, .ref q42_25, .ref q11_8, .ref q19_12, .ref q26_16, .int 0])), (q11_8, .inl (cY 3, 5, .inr (.inr (.inr (.inr (fun _ => none)))))), (q19_12, .inl (cY 0, 4, .inl (fun _ => 0))), (q26_16, .inl (cY 0, 4, .inl (fun _ => 0))), (q42_25, .inr (1, [.ref ql, .ref (u47_28 0), .ref (u47_28 1)])), (u47_28 0, .inr (2, figL (X2_init_w0 (fun _ => 0) 1))), (u47_28 1, .inr (2, figL (X2_init_w0 (fun _ => 0) 0))), (q65_38, .inr (1, [.null, .null, .null]))] := hD1
  have hS := hS1
  clear hP1 hD1 hS1
  refine W.widen (k := 7) (n := 51) (Nat.le_of_ble_eq_true rfl) (Nat.le_of_ble_eq_true rfl) ?_
  refine lv_dup hx hb dX3_init_68 rfl ?_
  refine lv_aload_n hx hb dX3_init_69 rfl (lv_at hl 2 rfl) ?_
  have hPc := hP.sub (ws' := [(q65_38, .inr (1, [.null, .null, .null]))]) [7] rfl
  have hDc := hD.sub (ws' := [(q65_38, .inr (1, [.null, .null, .null]))]) [7] (by decide) rfl
  have hFc := va_free (wc := [(q65_38, .inr (1, [.null, .null, .null]))]) hD hS hA [7] rfl
  refine va_callv (va_runI (As := [.ref ql]) (rest := [.ref q65_38, .int 0, .ref q11_8]) ⟨hx, hb, hml, hown, hts⟩ (c_X1_init l dC dI cY q65_38 ql H.size) (cwI 1 hts gX3_init_X1_init rfl rfl rfl (hts (.initialized RX1) (List.mem_of_getElem? (i := 13) rfl)) (hts (.methodLink RX3 35 yX1_init) (List.mem_of_getElem? (i := 15) rfl)) (hts (.instanceMethod yX1_init) (List.mem_of_getElem? (i := 16) rfl)) rfl (by decide +kernel) ⟨(Nat.le_of_ble_eq_true rfl), (Nat.le_of_ble_eq_true rfl)⟩) ⟨blindW, fun U hU hW => ⟨rfl, wPre_of hPc hK hN hDc U hU hW⟩⟩ rfl rfl hl.1 rfl (lv_room (Nat.le_of_ble_eq_true rfl)) dX3_init_70 ⟨(Nat.le_of_ble_eq_true rfl), (Nat.le_of_ble_eq_true rfl)⟩) hS (fun q _ h => hFc q h) hFc (fun u70_41 t H1 locs ht hvm hw hB hz1 hk1 hS1 => ?_)
  have hJ := wJoin (wr := [(h0, .inr (3, [.int 0, .ref ql, .ref q42_25, .ref q11_8, .ref q19_12, .ref q26_16, .int 0])), (q11_8, .inl (cY 3, 5, .inr (.inr (.inr (.inr (fun _ => none)))))), (q19_12, .inl (cY 0, 4, .inl (fun _ => 0))), (q26_16, .inl (cY 0, 4, .inl (fun _ => 0))), (q42_25, .inr (1, [.ref ql, .ref (u47_28 0), .ref (u47_28 1)])), (u47_28 0, .inr (2, figL (X2_init_w0 (fun _ => 0) 1))), (u47_28 1, .inr (2, figL (X2_init_w0 (fun _ => 0) 0)))]) (w1 := [(q65_38, .inr (1, [.ref ql, .ref (u70_41 0), .ref (u70_41 1)])), (u70_41 0, .inr (2, figL (X2_init_w0 (fun _ => 0) 1))), (u70_41 1, .inr (2, figL (X2_init_w0 (fun _ => 0) 0)))]) (wn := [(h0, .inr (3, [.int 0, .ref ql, .ref q42_25, .ref q11_8, .ref q19_12, .ref q26_16, .int 0])), (q11_8, .inl (cY 3, 5, .inr (.inr (.inr (.inr (fun _ => none)))))), (q19_12, .inl (cY 0, 4, .inl (fun _ => 0))), (q26_16, .inl (cY 0, 4, .inl (fun _ => 0))), (q42_25, .inr (1, [.ref ql, .ref (u47_28 0), .ref (u47_28 1)])), (u47_28 0, .inr (2, figL (X2_init_w0 (fun _ => 0) 1))), (u47_28 1, .inr (2, figL (X2_init_w0 (fun _ => 0) 0))), (q65_38, .inr (1, [.ref ql, .ref (u70_41 0), .ref (u70_41 1)])), (u70_41 0, .inr (2, figL (X2_init_w0 (fun _ => 0) 1))), (u70_41 1, .inr (2, figL (X2_init_w0 (fun _ => 0) 0)))]) hP hD [7] [0, 1, 2, 3, 4, 5, 6] rfl rfl (by decide +kernel) (by decide +kernel) hk1 hFc hB ht [0, 1, 2, 3, 4, 5, 6, 7, 8, 9] rfl (by decide +kernel)
  clear hB hk1 hFc hPc hDc hP hD hS hz1 hvm ht t
  obtain ⟨hP1, hD1⟩ := hJ
  generalize H1 = H at hP1 hS1 ⊢
  have hP : va_P (dC, dI) vwCl [(h0, .inr (3, [.int 0, .ref ql, .ref q42_25, .ref q11_8, .ref q19_12, .ref q26_16, .int 0])), (q11_8, .inl (cY 3, 5, .inr (.inr (.inr (.inr (fun _ => none)))))), (q19_12, .inl (cY 0, 4, .inl (fun _ => 0))), (q26_16, .inl (cY 0, 4, .inl (fun _ => 0))), (q42_25, .inr (1, [.ref ql, .ref (u47_28 0), .ref (u47_28 1)])), (u47_28 0, .inr (2, figL (X2_init_w0 (fun _ => 0) 1))), (u47_28 1, .inr (2, figL (X2_init_w0 (fun _ => 0) 0))), (q65_38, .inr (1, [.ref ql, .ref (u70_41 0), .ref (u70_41 1)])), (u70_41 0, .inr (2, figL (X2_init_w0 (fun _ => 0) 1))), (u70_41 1, .inr (2, figL (X2_init_w0 (fun _ => 0) 0)))] H := hP1
  have hD : va_D A [(h0, .inr (3, [.int 0, .ref ql, .ref q42_25, .ref q11_8, .ref q19_12, .ref q26_16, .int 0])), (q11_8, .inl (cY 3, 5, .inr (.inr (.inr (.inr (fun _ => none)))))), (q19_12, .inl (cY 0, 4, .inl (fun _ => 0))), (q26_16, .inl (cY 0, 4, .inl (fun _ => 0))), (q42_25, .inr (1, [.ref ql, .ref (u47_28 0), .ref (u47_28 1)])), (u47_28 0, .inr (2, figL (X2_init_w0 (fun _ => 0) 1))), (u47_28 1, .inr (2, figL (X2_init_w0 (fun _ => 0) 0))), (q65_38, .inr (1, [.ref ql, .ref (u70_41 0), .ref (u70_41 1)])), (u70_41 0, .inr (2, figL (X2_init_w0 (fun _ => 0) 1))), (u70_41 1, .inr (2, figL (X2_init_w0 (fun _ => 0) 0)))] := hD1
  have hS := hS1
  clear hP1 hD1 hS1
  refine W.widen (k := 9) (n := 83) (Nat.le_of_ble_eq_true rfl) (Nat.le_of_ble_eq_true rfl) ?_
  refine va_astq hx hb hK hP hD hS 1 3 7 1 rfl rfl rfl rfl (vin rfl) dX3_init_73 (fun H locs hP1 hD1 hS1 => ?_)
  clear hP hD hS
  have hP : va_P (dC, dI) vwCl [(h0, .inr (3, [.int 0, .ref ql, .ref q42_25, .ref q11_8, .ref q19_12, .ref q26_16, .int 0])), (q11_8, .inl (cY 3, 5, .inr (.inr (.inr (.inr (va_up (fun _ => none) (0 : Int32).toNatClampNeg (some q65_38))))))), (q19_12, .inl (cY 0, 4, .inl (fun _ => 0))), (q26_16, .inl (cY 0, 4, .inl (fun _ => 0))), (q42_25, .inr (1, [.ref ql, .ref (u47_28 0), .ref (u47_28 1)])), (u47_28 0, .inr (2, figL (X2_init_w0 (fun _ => 0) 1))), (u47_28 1, .inr (2, figL (X2_init_w0 (fun _ => 0) 0))), (q65_38, .inr (1, [.ref ql, .ref (u70_41 0), .ref (u70_41 1)])), (u70_41 0, .inr (2, figL (X2_init_w0 (fun _ => 0) 1))), (u70_41 1, .inr (2, figL (X2_init_w0 (fun _ => 0) 0)))] H := hP1
  have hD : va_D A [(h0, .inr (3, [.int 0, .ref ql, .ref q42_25, .ref q11_8, .ref q19_12, .ref q26_16, .int 0])), (q11_8, .inl (cY 3, 5, .inr (.inr (.inr (.inr (va_up (fun _ => none) (0 : Int32).toNatClampNeg (some q65_38))))))), (q19_12, .inl (cY 0, 4, .inl (fun _ => 0))), (q26_16, .inl (cY 0, 4, .inl (fun _ => 0))), (q42_25, .inr (1, [.ref ql, .ref (u47_28 0), .ref (u47_28 1)])), (u47_28 0, .inr (2, figL (X2_init_w0 (fun _ => 0) 1))), (u47_28 1, .inr (2, figL (X2_init_w0 (fun _ => 0) 0))), (q65_38, .inr (1, [.ref ql, .ref (u70_41 0), .ref (u70_41 1)])), (u70_41 0, .inr (2, figL (X2_init_w0 (fun _ => 0) 1))), (u70_41 1, .inr (2, figL (X2_init_w0 (fun _ => 0) 0)))] := hD1
  have hS := hS1
  clear hP1 hD1 hS1
  refine lv_iinc (v := 1) (lv' := [(2, .int 1), (0, .ref h0), (1, .ref ql)]) hx hb dX3_init_74 hl (k := 0) rfl (by first | rfl | decide) (by decide) rfl (fun ls hl => ?_)
  refine lv_goto (tgt := 55) hx hb dX3_init_77 (by decide) ?_
  refine lv_iload_n hx hb dX3_init_55 rfl (lv_at hl 0 rfl) ?_
  refine lv_iconst (v := 4) hx hb dX3_init_56 (by decide) ?_
  refine lv_icmp_gt (tgt := 80) hx hb dX3_init_57 (by decide) (fun c_47 => ?_) (fun c_47 => ?_)
  · exact absurd c_47 (by decide)
  refine lv_aload_n hx hb dX3_init_60 rfl (lv_at hl 1 rfl) ?_
  refine va_get (D := (dC, dI)) (ci := 3) (v := .ref q11_8) (C := RX3) (T := TX3) (N := 7) hx hb hts inw_X3_init_X3 hown hK hP 0 rfl rfl 3 (by decide) (hts (.fieldLink RX3 17 "DuelFrames$Lab" "behindHits" "[LDuelFrames$Duel;") (List.mem_of_getElem? (i := 6) rfl)) (fun _ h9 => h9) rfl dX3_init_61 ?_
  refine lv_iload_n hx hb dX3_init_64 rfl (lv_at hl 0 rfl) ?_
  refine va_new (D := (dC, dI)) (ci := 1) (fs := [.null, .null, .null]) (C := RX1) (T := TX1) (N := 3) hx hb hts inw_X3_init_X1 tyX1 tyX1_ok hown (hts (.classLink RX3 15 RX1) (List.mem_of_getElem? (i := 5) rfl)) (hts (.instantiable RX1 3) (List.mem_of_getElem? (i := 12) rfl)) (hts (.initialized RX1) (List.mem_of_getElem? (i := 13) rfl)) hK hP hD hS hA rfl (fun j hj => by rcases (show j = 0 ∨ j = 1 ∨ j = 2 by omega) with rfl | rfl | rfl <;> rfl) (Nat.le_of_ble_eq_true rfl) (Nat.le_of_ble_eq_true rfl) dX3_init_65 (fun q65_51 H hP1 hD1 hS1 => ?_)
  clear hP hD hS
  have hP : va_P (dC, dI) vwCl [(h0, .inr (3, [.int 0, .ref ql, .ref q42_25, .ref q11_8, .ref q19_12, .ref q26_16, .int 0])), (q11_8, .inl (cY 3, 5, .inr (.inr (.inr (.inr (va_up (fun _ => none) (0 : Int32).toNatClampNeg (some q65_38))))))), (q19_12, .inl (cY 0, 4, .inl (fun _ => 0))), (q26_16, .inl (cY 0, 4, .inl (fun _ => 0))), (q42_25, .inr (1, [.ref ql, .ref (u47_28 0), .ref (u47_28 1)])), (u47_28 0, .inr (2, figL (X2_init_w0 (fun _ => 0) 1))), (u47_28 1, .inr (2, figL (X2_init_w0 (fun _ => 0) 0))), (q65_38, .inr (1, [.ref ql, .ref (u70_41 0), .ref (u70_41 1)])), (u70_41 0, .inr (2, figL (X2_init_w0 (fun _ => 0) 1))), (u70_41 1, .inr (2, figL (X2_init_w0 (fun _ => 0) 0))), (q65_51, .inr (1, [.null, .null, .null]))] H := hP1
  have hD : va_D A [(h0, .inr (3, [.int 0, .ref ql, .ref q42_25, .ref q11_8, .ref q19_12, .ref q26_16, .int 0])), (q11_8, .inl (cY 3, 5, .inr (.inr (.inr (.inr (va_up (fun _ => none) (0 : Int32).toNatClampNeg (some q65_38))))))), (q19_12, .inl (cY 0, 4, .inl (fun _ => 0))), (q26_16, .inl (cY 0, 4, .inl (fun _ => 0))), (q42_25, .inr (1, [.ref ql, .ref (u47_28 0), .ref (u47_28 1)])), (u47_28 0, .inr (2, figL (X2_init_w0 (fun _ => 0) 1))), (u47_28 1, .inr (2, figL (X2_init_w0 (fun _ => 0) 0))), (q65_38, .inr (1, [.ref ql, .ref (u70_41 0), .ref (u70_41 1)])), (u70_41 0, .inr (2, figL (X2_init_w0 (fun _ => 0) 1))), (u70_41 1, .inr (2, figL (X2_init_w0 (fun _ => 0) 0))), (q65_51, .inr (1, [.null, .null, .null]))] := hD1
  have hS := hS1
  clear hP1 hD1 hS1
  refine W.widen (k := 10) (n := 86) (Nat.le_of_ble_eq_true rfl) (Nat.le_of_ble_eq_true rfl) ?_
  refine lv_dup hx hb dX3_init_68 rfl ?_
  refine lv_aload_n hx hb dX3_init_69 rfl (lv_at hl 2 rfl) ?_
  have hPc := hP.sub (ws' := [(q65_51, .inr (1, [.null, .null, .null]))]) [10] rfl
  have hDc := hD.sub (ws' := [(q65_51, .inr (1, [.null, .null, .null]))]) [10] (by decide) rfl
  have hFc := va_free (wc := [(q65_51, .inr (1, [.null, .null, .null]))]) hD hS hA [10] rfl
  refine va_callv (va_runI (As := [.ref ql]) (rest := [.ref q65_51, .int 1, .ref q11_8]) ⟨hx, hb, hml, hown, hts⟩ (c_X1_init l dC dI cY q65_51 ql H.size) (cwI 1 hts gX3_init_X1_init rfl rfl rfl (hts (.initialized RX1) (List.mem_of_getElem? (i := 13) rfl)) (hts (.methodLink RX3 35 yX1_init) (List.mem_of_getElem? (i := 15) rfl)) (hts (.instanceMethod yX1_init) (List.mem_of_getElem? (i := 16) rfl)) rfl (by decide +kernel) ⟨(Nat.le_of_ble_eq_true rfl), (Nat.le_of_ble_eq_true rfl)⟩) ⟨blindW, fun U hU hW => ⟨rfl, wPre_of hPc hK hN hDc U hU hW⟩⟩ rfl rfl hl.1 rfl (lv_room (Nat.le_of_ble_eq_true rfl)) dX3_init_70 ⟨(Nat.le_of_ble_eq_true rfl), (Nat.le_of_ble_eq_true rfl)⟩) hS (fun q _ h => hFc q h) hFc (fun u70_54 t H1 locs ht hvm hw hB hz1 hk1 hS1 => ?_)
  have hJ := wJoin (wr := [(h0, .inr (3, [.int 0, .ref ql, .ref q42_25, .ref q11_8, .ref q19_12, .ref q26_16, .int 0])), (q11_8, .inl (cY 3, 5, .inr (.inr (.inr (.inr (va_up (fun _ => none) (0 : Int32).toNatClampNeg (some q65_38))))))), (q19_12, .inl (cY 0, 4, .inl (fun _ => 0))), (q26_16, .inl (cY 0, 4, .inl (fun _ => 0))), (q42_25, .inr (1, [.ref ql, .ref (u47_28 0), .ref (u47_28 1)])), (u47_28 0, .inr (2, figL (X2_init_w0 (fun _ => 0) 1))), (u47_28 1, .inr (2, figL (X2_init_w0 (fun _ => 0) 0))), (q65_38, .inr (1, [.ref ql, .ref (u70_41 0), .ref (u70_41 1)])), (u70_41 0, .inr (2, figL (X2_init_w0 (fun _ => 0) 1))), (u70_41 1, .inr (2, figL (X2_init_w0 (fun _ => 0) 0)))]) (w1 := [(q65_51, .inr (1, [.ref ql, .ref (u70_54 0), .ref (u70_54 1)])), (u70_54 0, .inr (2, figL (X2_init_w0 (fun _ => 0) 1))), (u70_54 1, .inr (2, figL (X2_init_w0 (fun _ => 0) 0)))]) (wn := [(h0, .inr (3, [.int 0, .ref ql, .ref q42_25, .ref q11_8, .ref q19_12, .ref q26_16, .int 0])), (q11_8, .inl (cY 3, 5, .inr (.inr (.inr (.inr (va_up (fun _ => none) (0 : Int32).toNatClampNeg (some q65_38))))))), (q19_12, .inl (cY 0, 4, .inl (fun _ => 0))), (q26_16, .inl (cY 0, 4, .inl (fun _ => 0))), (q42_25, .inr (1, [.ref ql, .ref (u47_28 0), .ref (u47_28 1)])), (u47_28 0, .inr (2, figL (X2_init_w0 (fun _ => 0) 1))), (u47_28 1, .inr (2, figL (X2_init_w0 (fun _ => 0) 0))), (q65_38, .inr (1, [.ref ql, .ref (u70_41 0), .ref (u70_41 1)])), (u70_41 0, .inr (2, figL (X2_init_w0 (fun _ => 0) 1))), (u70_41 1, .inr (2, figL (X2_init_w0 (fun _ => 0) 0))), (q65_51, .inr (1, [.ref ql, .ref (u70_54 0), .ref (u70_54 1)])), (u70_54 0, .inr (2, figL (X2_init_w0 (fun _ => 0) 1))), (u70_54 1, .inr (2, figL (X2_init_w0 (fun _ => 0) 0)))]) hP hD [10] [0, 1, 2, 3, 4, 5, 6, 7, 8, 9] rfl rfl (by decide +kernel) (by decide +kernel) hk1 hFc hB ht [0, 1, 2, 3, 4, 5, 6, 7, 8, 9, 10, 11, 12] rfl (by decide +kernel)
  clear hB hk1 hFc hPc hDc hP hD hS hz1 hvm ht t
  obtain ⟨hP1, hD1⟩ := hJ
  generalize H1 = H at hP1 hS1 ⊢
  have hP : va_P (dC, dI) vwCl [(h0, .inr (3, [.int 0, .ref ql, .ref q42_25, .ref q11_8, .ref q19_12, .ref q26_16, .int 0])), (q11_8, .inl (cY 3, 5, .inr (.inr (.inr (.inr (va_up (fun _ => none) (0 : Int32).toNatClampNeg (some q65_38))))))), (q19_12, .inl (cY 0, 4, .inl (fun _ => 0))), (q26_16, .inl (cY 0, 4, .inl (fun _ => 0))), (q42_25, .inr (1, [.ref ql, .ref (u47_28 0), .ref (u47_28 1)])), (u47_28 0, .inr (2, figL (X2_init_w0 (fun _ => 0) 1))), (u47_28 1, .inr (2, figL (X2_init_w0 (fun _ => 0) 0))), (q65_38, .inr (1, [.ref ql, .ref (u70_41 0), .ref (u70_41 1)])), (u70_41 0, .inr (2, figL (X2_init_w0 (fun _ => 0) 1))), (u70_41 1, .inr (2, figL (X2_init_w0 (fun _ => 0) 0))), (q65_51, .inr (1, [.ref ql, .ref (u70_54 0), .ref (u70_54 1)])), (u70_54 0, .inr (2, figL (X2_init_w0 (fun _ => 0) 1))), (u70_54 1, .inr (2, figL (X2_init_w0 (fun _ => 0) 0)))] H := hP1
  have hD : va_D A [(h0, .inr (3, [.int 0, .ref ql, .ref q42_25, .ref q11_8, .ref q19_12, .ref q26_16, .int 0])), (q11_8, .inl (cY 3, 5, .inr (.inr (.inr (.inr (va_up (fun _ => none) (0 : Int32).toNatClampNeg (some q65_38))))))), (q19_12, .inl (cY 0, 4, .inl (fun _ => 0))), (q26_16, .inl (cY 0, 4, .inl (fun _ => 0))), (q42_25, .inr (1, [.ref ql, .ref (u47_28 0), .ref (u47_28 1)])), (u47_28 0, .inr (2, figL (X2_init_w0 (fun _ => 0) 1))), (u47_28 1, .inr (2, figL (X2_init_w0 (fun _ => 0) 0))), (q65_38, .inr (1, [.ref ql, .ref (u70_41 0), .ref (u70_41 1)])), (u70_41 0, .inr (2, figL (X2_init_w0 (fun _ => 0) 1))), (u70_41 1, .inr (2, figL (X2_init_w0 (fun _ => 0) 0))), (q65_51, .inr (1, [.ref ql, .ref (u70_54 0), .ref (u70_54 1)])), (u70_54 0, .inr (2, figL (X2_init_w0 (fun _ => 0) 1))), (u70_54 1, .inr (2, figL (X2_init_w0 (fun _ => 0) 0)))] := hD1
  have hS := hS1
  clear hP1 hD1 hS1
  refine W.widen (k := 12) (n := 118) (Nat.le_of_ble_eq_true rfl) (Nat.le_of_ble_eq_true rfl) ?_
  refine va_astq hx hb hK hP hD hS 1 3 10 1 rfl rfl rfl rfl (vin rfl) dX3_init_73 (fun H locs hP1 hD1 hS1 => ?_)
  clear hP hD hS
  have hP : va_P (dC, dI) vwCl [(h0, .inr (3, [.int 0, .ref ql, .ref q42_25, .ref q11_8, .ref q19_12, .ref q26_16, .int 0])), (q11_8, .inl (cY 3, 5, .inr (.inr (.inr (.inr (va_up (va_up (fun _ => none) (0 : Int32).toNatClampNeg (some q65_38)) (1 : Int32).toNatClampNeg (some q65_51))))))), (q19_12, .inl (cY 0, 4, .inl (fun _ => 0))), (q26_16, .inl (cY 0, 4, .inl (fun _ => 0))), (q42_25, .inr (1, [.ref ql, .ref (u47_28 0), .ref (u47_28 1)])), (u47_28 0, .inr (2, figL (X2_init_w0 (fun _ => 0) 1))), (u47_28 1, .inr (2, figL (X2_init_w0 (fun _ => 0) 0))), (q65_38, .inr (1, [.ref ql, .ref (u70_41 0), .ref (u70_41 1)])), (u70_41 0, .inr (2, figL (X2_init_w0 (fun _ => 0) 1))), (u70_41 1, .inr (2, figL (X2_init_w0 (fun _ => 0) 0))), (q65_51, .inr (1, [.ref ql, .ref (u70_54 0), .ref (u70_54 1)])), (u70_54 0, .inr (2, figL (X2_init_w0 (fun _ => 0) 1))), (u70_54 1, .inr (2, figL (X2_init_w0 (fun _ => 0) 0)))] H := hP1
  have hD : va_D A [(h0, .inr (3, [.int 0, .ref ql, .ref q42_25, .ref q11_8, .ref q19_12, .ref q26_16, .int 0])), (q11_8, .inl (cY 3, 5, .inr (.inr (.inr (.inr (va_up (va_up (fun _ => none) (0 : Int32).toNatClampNeg (some q65_38)) (1 : Int32).toNatClampNeg (some q65_51))))))), (q19_12, .inl (cY 0, 4, .inl (fun _ => 0))), (q26_16, .inl (cY 0, 4, .inl (fun _ => 0))), (q42_25, .inr (1, [.ref ql, .ref (u47_28 0), .ref (u47_28 1)])), (u47_28 0, .inr (2, figL (X2_init_w0 (fun _ => 0) 1))), (u47_28 1, .inr (2, figL (X2_init_w0 (fun _ => 0) 0))), (q65_38, .inr (1, [.ref ql, .ref (u70_41 0), .ref (u70_41 1)])), (u70_41 0, .inr (2, figL (X2_init_w0 (fun _ => 0) 1))), (u70_41 1, .inr (2, figL (X2_init_w0 (fun _ => 0) 0))), (q65_51, .inr (1, [.ref ql, .ref (u70_54 0), .ref (u70_54 1)])), (u70_54 0, .inr (2, figL (X2_init_w0 (fun _ => 0) 1))), (u70_54 1, .inr (2, figL (X2_init_w0 (fun _ => 0) 0)))] := hD1
  have hS := hS1
  clear hP1 hD1 hS1
  refine lv_iinc (v := 2) (lv' := [(2, .int 2), (0, .ref h0), (1, .ref ql)]) hx hb dX3_init_74 hl (k := 0) rfl (by first | rfl | decide) (by decide) rfl (fun ls hl => ?_)
  refine lv_goto (tgt := 55) hx hb dX3_init_77 (by decide) ?_
  refine lv_iload_n hx hb dX3_init_55 rfl (lv_at hl 0 rfl) ?_
  refine lv_iconst (v := 4) hx hb dX3_init_56 (by decide) ?_
  refine lv_icmp_gt (tgt := 80) hx hb dX3_init_57 (by decide) (fun c_60 => ?_) (fun c_60 => ?_)
  · exact absurd c_60 (by decide)
  refine lv_aload_n hx hb dX3_init_60 rfl (lv_at hl 1 rfl) ?_
  refine va_get (D := (dC, dI)) (ci := 3) (v := .ref q11_8) (C := RX3) (T := TX3) (N := 7) hx hb hts inw_X3_init_X3 hown hK hP 0 rfl rfl 3 (by decide) (hts (.fieldLink RX3 17 "DuelFrames$Lab" "behindHits" "[LDuelFrames$Duel;") (List.mem_of_getElem? (i := 6) rfl)) (fun _ h9 => h9) rfl dX3_init_61 ?_
  refine lv_iload_n hx hb dX3_init_64 rfl (lv_at hl 0 rfl) ?_
  refine va_new (D := (dC, dI)) (ci := 1) (fs := [.null, .null, .null]) (C := RX1) (T := TX1) (N := 3) hx hb hts inw_X3_init_X1 tyX1 tyX1_ok hown (hts (.classLink RX3 15 RX1) (List.mem_of_getElem? (i := 5) rfl)) (hts (.instantiable RX1 3) (List.mem_of_getElem? (i := 12) rfl)) (hts (.initialized RX1) (List.mem_of_getElem? (i := 13) rfl)) hK hP hD hS hA rfl (fun j hj => by rcases (show j = 0 ∨ j = 1 ∨ j = 2 by omega) with rfl | rfl | rfl <;> rfl) (Nat.le_of_ble_eq_true rfl) (Nat.le_of_ble_eq_true rfl) dX3_init_65 (fun q65_64 H hP1 hD1 hS1 => ?_)
  clear hP hD hS
  have hP : va_P (dC, dI) vwCl [(h0, .inr (3, [.int 0, .ref ql, .ref q42_25, .ref q11_8, .ref q19_12, .ref q26_16, .int 0])), (q11_8, .inl (cY 3, 5, .inr (.inr (.inr (.inr (va_up (va_up (fun _ => none) (0 : Int32).toNatClampNeg (some q65_38)) (1 : Int32).toNatClampNeg (some q65_51))))))), (q19_12, .inl (cY 0, 4, .inl (fun _ => 0))), (q26_16, .inl (cY 0, 4, .inl (fun _ => 0))), (q42_25, .inr (1, [.ref ql, .ref (u47_28 0), .ref (u47_28 1)])), (u47_28 0, .inr (2, figL (X2_init_w0 (fun _ => 0) 1))), (u47_28 1, .inr (2, figL (X2_init_w0 (fun _ => 0) 0))), (q65_38, .inr (1, [.ref ql, .ref (u70_41 0), .ref (u70_41 1)])), (u70_41 0, .inr (2, figL (X2_init_w0 (fun _ => 0) 1))), (u70_41 1, .inr (2, figL (X2_init_w0 (fun _ => 0) 0))), (q65_51, .inr (1, [.ref ql, .ref (u70_54 0), .ref (u70_54 1)])), (u70_54 0, .inr (2, figL (X2_init_w0 (fun _ => 0) 1))), (u70_54 1, .inr (2, figL (X2_init_w0 (fun _ => 0) 0))), (q65_64, .inr (1, [.null, .null, .null]))] H := hP1
  have hD : va_D A [(h0, .inr (3, [.int 0, .ref ql, .ref q42_25, .ref q11_8, .ref q19_12, .ref q26_16, .int 0])), (q11_8, .inl (cY 3, 5, .inr (.inr (.inr (.inr (va_up (va_up (fun _ => none) (0 : Int32).toNatClampNeg (some q65_38)) (1 : Int32).toNatClampNeg (some q65_51))))))), (q19_12, .inl (cY 0, 4, .inl (fun _ => 0))), (q26_16, .inl (cY 0, 4, .inl (fun _ => 0))), (q42_25, .inr (1, [.ref ql, .ref (u47_28 0), .ref (u47_28 1)])), (u47_28 0, .inr (2, figL (X2_init_w0 (fun _ => 0) 1))), (u47_28 1, .inr (2, figL (X2_init_w0 (fun _ => 0) 0))), (q65_38, .inr (1, [.ref ql, .ref (u70_41 0), .ref (u70_41 1)])), (u70_41 0, .inr (2, figL (X2_init_w0 (fun _ => 0) 1))), (u70_41 1, .inr (2, figL (X2_init_w0 (fun _ => 0) 0))), (q65_51, .inr (1, [.ref ql, .ref (u70_54 0), .ref (u70_54 1)])), (u70_54 0, .inr (2, figL (X2_init_w0 (fun _ => 0) 1))), (u70_54 1, .inr (2, figL (X2_init_w0 (fun _ => 0) 0))), (q65_64, .inr (1, [.null, .null, .null]))] := hD1
  have hS := hS1
  clear hP1 hD1 hS1
  refine W.widen (k := 13) (n := 121) (Nat.le_of_ble_eq_true rfl) (Nat.le_of_ble_eq_true rfl) ?_
  refine lv_dup hx hb dX3_init_68 rfl ?_
  refine lv_aload_n hx hb dX3_init_69 rfl (lv_at hl 2 rfl) ?_
  have hPc := hP.sub (ws' := [(q65_64, .inr (1, [.null, .null, .null]))]) [13] rfl
  have hDc := hD.sub (ws' := [(q65_64, .inr (1, [.null, .null, .null]))]) [13] (by decide) rfl
  have hFc := va_free (wc := [(q65_64, .inr (1, [.null, .null, .null]))]) hD hS hA [13] rfl
  refine va_callv (va_runI (As := [.ref ql]) (rest := [.ref q65_64, .int 2, .ref q11_8]) ⟨hx, hb, hml, hown, hts⟩ (c_X1_init l dC dI cY q65_64 ql H.size) (cwI 1 hts gX3_init_X1_init rfl rfl rfl (hts (.initialized RX1) (List.mem_of_getElem? (i := 13) rfl)) (hts (.methodLink RX3 35 yX1_init) (List.mem_of_getElem? (i := 15) rfl)) (hts (.instanceMethod yX1_init) (List.mem_of_getElem? (i := 16) rfl)) rfl (by decide +kernel) ⟨(Nat.le_of_ble_eq_true rfl), (Nat.le_of_ble_eq_true rfl)⟩) ⟨blindW, fun U hU hW => ⟨rfl, wPre_of hPc hK hN hDc U hU hW⟩⟩ rfl rfl hl.1 rfl (lv_room (Nat.le_of_ble_eq_true rfl)) dX3_init_70 ⟨(Nat.le_of_ble_eq_true rfl), (Nat.le_of_ble_eq_true rfl)⟩) hS (fun q _ h => hFc q h) hFc (fun u70_67 t H1 locs ht hvm hw hB hz1 hk1 hS1 => ?_)
  have hJ := wJoin (wr := [(h0, .inr (3, [.int 0, .ref ql, .ref q42_25, .ref q11_8, .ref q19_12, .ref q26_16, .int 0])), (q11_8, .inl (cY 3, 5, .inr (.inr (.inr (.inr (va_up (va_up (fun _ => none) (0 : Int32).toNatClampNeg (some q65_38)) (1 : Int32).toNatClampNeg (some q65_51))))))), (q19_12, .inl (cY 0, 4, .inl (fun _ => 0))), (q26_16, .inl (cY 0, 4, .inl (fun _ => 0))), (q42_25, .inr (1, [.ref ql, .ref (u47_28 0), .ref (u47_28 1)])), (u47_28 0, .inr (2, figL (X2_init_w0 (fun _ => 0) 1))), (u47_28 1, .inr (2, figL (X2_init_w0 (fun _ => 0) 0))), (q65_38, .inr (1, [.ref ql, .ref (u70_41 0), .ref (u70_41 1)])), (u70_41 0, .inr (2, figL (X2_init_w0 (fun _ => 0) 1))), (u70_41 1, .inr (2, figL (X2_init_w0 (fun _ => 0) 0))), (q65_51, .inr (1, [.ref ql, .ref (u70_54 0), .ref (u70_54 1)])), (u70_54 0, .inr (2, figL (X2_init_w0 (fun _ => 0) 1))), (u70_54 1, .inr (2, figL (X2_init_w0 (fun _ => 0) 0)))]) (w1 := [(q65_64, .inr (1, [.ref ql, .ref (u70_67 0), .ref (u70_67 1)])), (u70_67 0, .inr (2, figL (X2_init_w0 (fun _ => 0) 1))), (u70_67 1, .inr (2, figL (X2_init_w0 (fun _ => 0) 0)))]) (wn := [(h0, .inr (3, [.int 0, .ref ql, .ref q42_25, .ref q11_8, .ref q19_12, .ref q26_16, .int 0])), (q11_8, .inl (cY 3, 5, .inr (.inr (.inr (.inr (va_up (va_up (fun _ => none) (0 : Int32).toNatClampNeg (some q65_38)) (1 : Int32).toNatClampNeg (some q65_51))))))), (q19_12, .inl (cY 0, 4, .inl (fun _ => 0))), (q26_16, .inl (cY 0, 4, .inl (fun _ => 0))), (q42_25, .inr (1, [.ref ql, .ref (u47_28 0), .ref (u47_28 1)])), (u47_28 0, .inr (2, figL (X2_init_w0 (fun _ => 0) 1))), (u47_28 1, .inr (2, figL (X2_init_w0 (fun _ => 0) 0))), (q65_38, .inr (1, [.ref ql, .ref (u70_41 0), .ref (u70_41 1)])), (u70_41 0, .inr (2, figL (X2_init_w0 (fun _ => 0) 1))), (u70_41 1, .inr (2, figL (X2_init_w0 (fun _ => 0) 0))), (q65_51, .inr (1, [.ref ql, .ref (u70_54 0), .ref (u70_54 1)])), (u70_54 0, .inr (2, figL (X2_init_w0 (fun _ => 0) 1))), (u70_54 1, .inr (2, figL (X2_init_w0 (fun _ => 0) 0))), (q65_64, .inr (1, [.ref ql, .ref (u70_67 0), .ref (u70_67 1)])), (u70_67 0, .inr (2, figL (X2_init_w0 (fun _ => 0) 1))), (u70_67 1, .inr (2, figL (X2_init_w0 (fun _ => 0) 0)))]) hP hD [13] [0, 1, 2, 3, 4, 5, 6, 7, 8, 9, 10, 11, 12] rfl rfl (by decide +kernel) (by decide +kernel) hk1 hFc hB ht [0, 1, 2, 3, 4, 5, 6, 7, 8, 9, 10, 11, 12, 13, 14, 15] rfl (by decide +kernel)
  clear hB hk1 hFc hPc hDc hP hD hS hz1 hvm ht t
  obtain ⟨hP1, hD1⟩ := hJ
  generalize H1 = H at hP1 hS1 ⊢
  have hP : va_P (dC, dI) vwCl [(h0, .inr (3, [.int 0, .ref ql, .ref q42_25, .ref q11_8, .ref q19_12, .ref q26_16, .int 0])), (q11_8, .inl (cY 3, 5, .inr (.inr (.inr (.inr (va_up (va_up (fun _ => none) (0 : Int32).toNatClampNeg (some q65_38)) (1 : Int32).toNatClampNeg (some q65_51))))))), (q19_12, .inl (cY 0, 4, .inl (fun _ => 0))), (q26_16, .inl (cY 0, 4, .inl (fun _ => 0))), (q42_25, .inr (1, [.ref ql, .ref (u47_28 0), .ref (u47_28 1)])), (u47_28 0, .inr (2, figL (X2_init_w0 (fun _ => 0) 1))), (u47_28 1, .inr (2, figL (X2_init_w0 (fun _ => 0) 0))), (q65_38, .inr (1, [.ref ql, .ref (u70_41 0), .ref (u70_41 1)])), (u70_41 0, .inr (2, figL (X2_init_w0 (fun _ => 0) 1))), (u70_41 1, .inr (2, figL (X2_init_w0 (fun _ => 0) 0))), (q65_51, .inr (1, [.ref ql, .ref (u70_54 0), .ref (u70_54 1)])), (u70_54 0, .inr (2, figL (X2_init_w0 (fun _ => 0) 1))), (u70_54 1, .inr (2, figL (X2_init_w0 (fun _ => 0) 0))), (q65_64, .inr (1, [.ref ql, .ref (u70_67 0), .ref (u70_67 1)])), (u70_67 0, .inr (2, figL (X2_init_w0 (fun _ => 0) 1))), (u70_67 1, .inr (2, figL (X2_init_w0 (fun _ => 0) 0)))] H := hP1
  have hD : va_D A [(h0, .inr (3, [.int 0, .ref ql, .ref q42_25, .ref q11_8, .ref q19_12, .ref q26_16, .int 0])), (q11_8, .inl (cY 3, 5, .inr (.inr (.inr (.inr (va_up (va_up (fun _ => none) (0 : Int32).toNatClampNeg (some q65_38)) (1 : Int32).toNatClampNeg (some q65_51))))))), (q19_12, .inl (cY 0, 4, .inl (fun _ => 0))), (q26_16, .inl (cY 0, 4, .inl (fun _ => 0))), (q42_25, .inr (1, [.ref ql, .ref (u47_28 0), .ref (u47_28 1)])), (u47_28 0, .inr (2, figL (X2_init_w0 (fun _ => 0) 1))), (u47_28 1, .inr (2, figL (X2_init_w0 (fun _ => 0) 0))), (q65_38, .inr (1, [.ref ql, .ref (u70_41 0), .ref (u70_41 1)])), (u70_41 0, .inr (2, figL (X2_init_w0 (fun _ => 0) 1))), (u70_41 1, .inr (2, figL (X2_init_w0 (fun _ => 0) 0))), (q65_51, .inr (1, [.ref ql, .ref (u70_54 0), .ref (u70_54 1)])), (u70_54 0, .inr (2, figL (X2_init_w0 (fun _ => 0) 1))), (u70_54 1, .inr (2, figL (X2_init_w0 (fun _ => 0) 0))), (q65_64, .inr (1, [.ref ql, .ref (u70_67 0), .ref (u70_67 1)])), (u70_67 0, .inr (2, figL (X2_init_w0 (fun _ => 0) 1))), (u70_67 1, .inr (2, figL (X2_init_w0 (fun _ => 0) 0)))] := hD1
  have hS := hS1
  clear hP1 hD1 hS1
  refine W.widen (k := 15) (n := 153) (Nat.le_of_ble_eq_true rfl) (Nat.le_of_ble_eq_true rfl) ?_
  refine va_astq hx hb hK hP hD hS 1 3 13 1 rfl rfl rfl rfl (vin rfl) dX3_init_73 (fun H locs hP1 hD1 hS1 => ?_)
  clear hP hD hS
  have hP : va_P (dC, dI) vwCl [(h0, .inr (3, [.int 0, .ref ql, .ref q42_25, .ref q11_8, .ref q19_12, .ref q26_16, .int 0])), (q11_8, .inl (cY 3, 5, .inr (.inr (.inr (.inr (va_up (va_up (va_up (fun _ => none) (0 : Int32).toNatClampNeg (some q65_38)) (1 : Int32).toNatClampNeg (some q65_51)) (2 : Int32).toNatClampNeg (some q65_64))))))), (q19_12, .inl (cY 0, 4, .inl (fun _ => 0))), (q26_16, .inl (cY 0, 4, .inl (fun _ => 0))), (q42_25, .inr (1, [.ref ql, .ref (u47_28 0), .ref (u47_28 1)])), (u47_28 0, .inr (2, figL (X2_init_w0 (fun _ => 0) 1))), (u47_28 1, .inr (2, figL (X2_init_w0 (fun _ => 0) 0))), (q65_38, .inr (1, [.ref ql, .ref (u70_41 0), .ref (u70_41 1)])), (u70_41 0, .inr (2, figL (X2_init_w0 (fun _ => 0) 1))), (u70_41 1, .inr (2, figL (X2_init_w0 (fun _ => 0) 0))), (q65_51, .inr (1, [.ref ql, .ref (u70_54 0), .ref (u70_54 1)])), (u70_54 0, .inr (2, figL (X2_init_w0 (fun _ => 0) 1))), (u70_54 1, .inr (2, figL (X2_init_w0 (fun _ => 0) 0))), (q65_64, .inr (1, [.ref ql, .ref (u70_67 0), .ref (u70_67 1)])), (u70_67 0, .inr (2, figL (X2_init_w0 (fun _ => 0) 1))), (u70_67 1, .inr (2, figL (X2_init_w0 (fun _ => 0) 0)))] H := hP1
  have hD : va_D A [(h0, .inr (3, [.int 0, .ref ql, .ref q42_25, .ref q11_8, .ref q19_12, .ref q26_16, .int 0])), (q11_8, .inl (cY 3, 5, .inr (.inr (.inr (.inr (va_up (va_up (va_up (fun _ => none) (0 : Int32).toNatClampNeg (some q65_38)) (1 : Int32).toNatClampNeg (some q65_51)) (2 : Int32).toNatClampNeg (some q65_64))))))), (q19_12, .inl (cY 0, 4, .inl (fun _ => 0))), (q26_16, .inl (cY 0, 4, .inl (fun _ => 0))), (q42_25, .inr (1, [.ref ql, .ref (u47_28 0), .ref (u47_28 1)])), (u47_28 0, .inr (2, figL (X2_init_w0 (fun _ => 0) 1))), (u47_28 1, .inr (2, figL (X2_init_w0 (fun _ => 0) 0))), (q65_38, .inr (1, [.ref ql, .ref (u70_41 0), .ref (u70_41 1)])), (u70_41 0, .inr (2, figL (X2_init_w0 (fun _ => 0) 1))), (u70_41 1, .inr (2, figL (X2_init_w0 (fun _ => 0) 0))), (q65_51, .inr (1, [.ref ql, .ref (u70_54 0), .ref (u70_54 1)])), (u70_54 0, .inr (2, figL (X2_init_w0 (fun _ => 0) 1))), (u70_54 1, .inr (2, figL (X2_init_w0 (fun _ => 0) 0))), (q65_64, .inr (1, [.ref ql, .ref (u70_67 0), .ref (u70_67 1)])), (u70_67 0, .inr (2, figL (X2_init_w0 (fun _ => 0) 1))), (u70_67 1, .inr (2, figL (X2_init_w0 (fun _ => 0) 0)))] := hD1
  have hS := hS1
  clear hP1 hD1 hS1
  refine lv_iinc (v := 3) (lv' := [(2, .int 3), (0, .ref h0), (1, .ref ql)]) hx hb dX3_init_74 hl (k := 0) rfl (by first | rfl | decide) (by decide) rfl (fun ls hl => ?_)
  refine lv_goto (tgt := 55) hx hb dX3_init_77 (by decide) ?_
  refine lv_iload_n hx hb dX3_init_55 rfl (lv_at hl 0 rfl) ?_
  refine lv_iconst (v := 4) hx hb dX3_init_56 (by decide) ?_
  refine lv_icmp_gt (tgt := 80) hx hb dX3_init_57 (by decide) (fun c_73 => ?_) (fun c_73 => ?_)
  · exact absurd c_73 (by decide)
  refine lv_aload_n hx hb dX3_init_60 rfl (lv_at hl 1 rfl) ?_
  refine va_get (D := (dC, dI)) (ci := 3) (v := .ref q11_8) (C := RX3) (T := TX3) (N := 7) hx hb hts inw_X3_init_X3 hown hK hP 0 rfl rfl 3 (by decide) (hts (.fieldLink RX3 17 "DuelFrames$Lab" "behindHits" "[LDuelFrames$Duel;") (List.mem_of_getElem? (i := 6) rfl)) (fun _ h9 => h9) rfl dX3_init_61 ?_
  refine lv_iload_n hx hb dX3_init_64 rfl (lv_at hl 0 rfl) ?_
  refine va_new (D := (dC, dI)) (ci := 1) (fs := [.null, .null, .null]) (C := RX1) (T := TX1) (N := 3) hx hb hts inw_X3_init_X1 tyX1 tyX1_ok hown (hts (.classLink RX3 15 RX1) (List.mem_of_getElem? (i := 5) rfl)) (hts (.instantiable RX1 3) (List.mem_of_getElem? (i := 12) rfl)) (hts (.initialized RX1) (List.mem_of_getElem? (i := 13) rfl)) hK hP hD hS hA rfl (fun j hj => by rcases (show j = 0 ∨ j = 1 ∨ j = 2 by omega) with rfl | rfl | rfl <;> rfl) (Nat.le_of_ble_eq_true rfl) (Nat.le_of_ble_eq_true rfl) dX3_init_65 (fun q65_77 H hP1 hD1 hS1 => ?_)
  clear hP hD hS
  have hP : va_P (dC, dI) vwCl [(h0, .inr (3, [.int 0, .ref ql, .ref q42_25, .ref q11_8, .ref q19_12, .ref q26_16, .int 0])), (q11_8, .inl (cY 3, 5, .inr (.inr (.inr (.inr (va_up (va_up (va_up (fun _ => none) (0 : Int32).toNatClampNeg (some q65_38)) (1 : Int32).toNatClampNeg (some q65_51)) (2 : Int32).toNatClampNeg (some q65_64))))))), (q19_12, .inl (cY 0, 4, .inl (fun _ => 0))), (q26_16, .inl (cY 0, 4, .inl (fun _ => 0))), (q42_25, .inr (1, [.ref ql, .ref (u47_28 0), .ref (u47_28 1)])), (u47_28 0, .inr (2, figL (X2_init_w0 (fun _ => 0) 1))), (u47_28 1, .inr (2, figL (X2_init_w0 (fun _ => 0) 0))), (q65_38, .inr (1, [.ref ql, .ref (u70_41 0), .ref (u70_41 1)])), (u70_41 0, .inr (2, figL (X2_init_w0 (fun _ => 0) 1))), (u70_41 1, .inr (2, figL (X2_init_w0 (fun _ => 0) 0))), (q65_51, .inr (1, [.ref ql, .ref (u70_54 0), .ref (u70_54 1)])), (u70_54 0, .inr (2, figL (X2_init_w0 (fun _ => 0) 1))), (u70_54 1, .inr (2, figL (X2_init_w0 (fun _ => 0) 0))), (q65_64, .inr (1, [.ref ql, .ref (u70_67 0), .ref (u70_67 1)])), (u70_67 0, .inr (2, figL (X2_init_w0 (fun _ => 0) 1))), (u70_67 1, .inr (2, figL (X2_init_w0 (fun _ => 0) 0))), (q65_77, .inr (1, [.null, .null, .null]))] H := hP1
  have hD : va_D A [(h0, .inr (3, [.int 0, .ref ql, .ref q42_25, .ref q11_8, .ref q19_12, .ref q26_16, .int 0])), (q11_8, .inl (cY 3, 5, .inr (.inr (.inr (.inr (va_up (va_up (va_up (fun _ => none) (0 : Int32).toNatClampNeg (some q65_38)) (1 : Int32).toNatClampNeg (some q65_51)) (2 : Int32).toNatClampNeg (some q65_64))))))), (q19_12, .inl (cY 0, 4, .inl (fun _ => 0))), (q26_16, .inl (cY 0, 4, .inl (fun _ => 0))), (q42_25, .inr (1, [.ref ql, .ref (u47_28 0), .ref (u47_28 1)])), (u47_28 0, .inr (2, figL (X2_init_w0 (fun _ => 0) 1))), (u47_28 1, .inr (2, figL (X2_init_w0 (fun _ => 0) 0))), (q65_38, .inr (1, [.ref ql, .ref (u70_41 0), .ref (u70_41 1)])), (u70_41 0, .inr (2, figL (X2_init_w0 (fun _ => 0) 1))), (u70_41 1, .inr (2, figL (X2_init_w0 (fun _ => 0) 0))), (q65_51, .inr (1, [.ref ql, .ref (u70_54 0), .ref (u70_54 1)])), (u70_54 0, .inr (2, figL (X2_init_w0 (fun _ => 0) 1))), (u70_54 1, .inr (2, figL (X2_init_w0 (fun _ => 0) 0))), (q65_64, .inr (1, [.ref ql, .ref (u70_67 0), .ref (u70_67 1)])), (u70_67 0, .inr (2, figL (X2_init_w0 (fun _ => 0) 1))), (u70_67 1, .inr (2, figL (X2_init_w0 (fun _ => 0) 0))), (q65_77, .inr (1, [.null, .null, .null]))] := hD1
  have hS := hS1
  clear hP1 hD1 hS1
  refine W.widen (k := 16) (n := 156) (Nat.le_of_ble_eq_true rfl) (Nat.le_of_ble_eq_true rfl) ?_
  refine lv_dup hx hb dX3_init_68 rfl ?_
  refine lv_aload_n hx hb dX3_init_69 rfl (lv_at hl 2 rfl) ?_
  have hPc := hP.sub (ws' := [(q65_77, .inr (1, [.null, .null, .null]))]) [16] rfl
  have hDc := hD.sub (ws' := [(q65_77, .inr (1, [.null, .null, .null]))]) [16] (by decide) rfl
  have hFc := va_free (wc := [(q65_77, .inr (1, [.null, .null, .null]))]) hD hS hA [16] rfl
  refine va_callv (va_runI (As := [.ref ql]) (rest := [.ref q65_77, .int 3, .ref q11_8]) ⟨hx, hb, hml, hown, hts⟩ (c_X1_init l dC dI cY q65_77 ql H.size) (cwI 1 hts gX3_init_X1_init rfl rfl rfl (hts (.initialized RX1) (List.mem_of_getElem? (i := 13) rfl)) (hts (.methodLink RX3 35 yX1_init) (List.mem_of_getElem? (i := 15) rfl)) (hts (.instanceMethod yX1_init) (List.mem_of_getElem? (i := 16) rfl)) rfl (by decide +kernel) ⟨(Nat.le_of_ble_eq_true rfl), (Nat.le_of_ble_eq_true rfl)⟩) ⟨blindW, fun U hU hW => ⟨rfl, wPre_of hPc hK hN hDc U hU hW⟩⟩ rfl rfl hl.1 rfl (lv_room (Nat.le_of_ble_eq_true rfl)) dX3_init_70 ⟨(Nat.le_of_ble_eq_true rfl), (Nat.le_of_ble_eq_true rfl)⟩) hS (fun q _ h => hFc q h) hFc (fun u70_80 t H1 locs ht hvm hw hB hz1 hk1 hS1 => ?_)
  have hJ := wJoin (wr := [(h0, .inr (3, [.int 0, .ref ql, .ref q42_25, .ref q11_8, .ref q19_12, .ref q26_16, .int 0])), (q11_8, .inl (cY 3, 5, .inr (.inr (.inr (.inr (va_up (va_up (va_up (fun _ => none) (0 : Int32).toNatClampNeg (some q65_38)) (1 : Int32).toNatClampNeg (some q65_51)) (2 : Int32).toNatClampNeg (some q65_64))))))), (q19_12, .inl (cY 0, 4, .inl (fun _ => 0))), (q26_16, .inl (cY 0, 4, .inl (fun _ => 0))), (q42_25, .inr (1, [.ref ql, .ref (u47_28 0), .ref (u47_28 1)])), (u47_28 0, .inr (2, figL (X2_init_w0 (fun _ => 0) 1))), (u47_28 1, .inr (2, figL (X2_init_w0 (fun _ => 0) 0))), (q65_38, .inr (1, [.ref ql, .ref (u70_41 0), .ref (u70_41 1)])), (u70_41 0, .inr (2, figL (X2_init_w0 (fun _ => 0) 1))), (u70_41 1, .inr (2, figL (X2_init_w0 (fun _ => 0) 0))), (q65_51, .inr (1, [.ref ql, .ref (u70_54 0), .ref (u70_54 1)])), (u70_54 0, .inr (2, figL (X2_init_w0 (fun _ => 0) 1))), (u70_54 1, .inr (2, figL (X2_init_w0 (fun _ => 0) 0))), (q65_64, .inr (1, [.ref ql, .ref (u70_67 0), .ref (u70_67 1)])), (u70_67 0, .inr (2, figL (X2_init_w0 (fun _ => 0) 1))), (u70_67 1, .inr (2, figL (X2_init_w0 (fun _ => 0) 0)))]) (w1 := [(q65_77, .inr (1, [.ref ql, .ref (u70_80 0), .ref (u70_80 1)])), (u70_80 0, .inr (2, figL (X2_init_w0 (fun _ => 0) 1))), (u70_80 1, .inr (2, figL (X2_init_w0 (fun _ => 0) 0)))]) (wn := [(h0, .inr (3, [.int 0, .ref ql, .ref q42_25, .ref q11_8, .ref q19_12, .ref q26_16, .int 0])), (q11_8, .inl (cY 3, 5, .inr (.inr (.inr (.inr (va_up (va_up (va_up (fun _ => none) (0 : Int32).toNatClampNeg (some q65_38)) (1 : Int32).toNatClampNeg (some q65_51)) (2 : Int32).toNatClampNeg (some q65_64))))))), (q19_12, .inl (cY 0, 4, .inl (fun _ => 0))), (q26_16, .inl (cY 0, 4, .inl (fun _ => 0))), (q42_25, .inr (1, [.ref ql, .ref (u47_28 0), .ref (u47_28 1)])), (u47_28 0, .inr (2, figL (X2_init_w0 (fun _ => 0) 1))), (u47_28 1, .inr (2, figL (X2_init_w0 (fun _ => 0) 0))), (q65_38, .inr (1, [.ref ql, .ref (u70_41 0), .ref (u70_41 1)])), (u70_41 0, .inr (2, figL (X2_init_w0 (fun _ => 0) 1))), (u70_41 1, .inr (2, figL (X2_init_w0 (fun _ => 0) 0))), (q65_51, .inr (1, [.ref ql, .ref (u70_54 0), .ref (u70_54 1)])), (u70_54 0, .inr (2, figL (X2_init_w0 (fun _ => 0) 1))), (u70_54 1, .inr (2, figL (X2_init_w0 (fun _ => 0) 0))), (q65_64, .inr (1, [.ref ql, .ref (u70_67 0), .ref (u70_67 1)])), (u70_67 0, .inr (2, figL (X2_init_w0 (fun _ => 0) 1))), (u70_67 1, .inr (2, figL (X2_init_w0 (fun _ => 0) 0))), (q65_77, .inr (1, [.ref ql, .ref (u70_80 0), .ref (u70_80 1)])), (u70_80 0, .inr (2, figL (X2_init_w0 (fun _ => 0) 1))), (u70_80 1, .inr (2, figL (X2_init_w0 (fun _ => 0) 0)))]) hP hD [16] [0, 1, 2, 3, 4, 5, 6, 7, 8, 9, 10, 11, 12, 13, 14, 15] rfl rfl (by decide +kernel) (by decide +kernel) hk1 hFc hB ht [0, 1, 2, 3, 4, 5, 6, 7, 8, 9, 10, 11, 12, 13, 14, 15, 16, 17, 18] rfl (by decide +kernel)
  clear hB hk1 hFc hPc hDc hP hD hS hz1 hvm ht t
  obtain ⟨hP1, hD1⟩ := hJ
  generalize H1 = H at hP1 hS1 ⊢
  have hP : va_P (dC, dI) vwCl [(h0, .inr (3, [.int 0, .ref ql, .ref q42_25, .ref q11_8, .ref q19_12, .ref q26_16, .int 0])), (q11_8, .inl (cY 3, 5, .inr (.inr (.inr (.inr (va_up (va_up (va_up (fun _ => none) (0 : Int32).toNatClampNeg (some q65_38)) (1 : Int32).toNatClampNeg (some q65_51)) (2 : Int32).toNatClampNeg (some q65_64))))))), (q19_12, .inl (cY 0, 4, .inl (fun _ => 0))), (q26_16, .inl (cY 0, 4, .inl (fun _ => 0))), (q42_25, .inr (1, [.ref ql, .ref (u47_28 0), .ref (u47_28 1)])), (u47_28 0, .inr (2, figL (X2_init_w0 (fun _ => 0) 1))), (u47_28 1, .inr (2, figL (X2_init_w0 (fun _ => 0) 0))), (q65_38, .inr (1, [.ref ql, .ref (u70_41 0), .ref (u70_41 1)])), (u70_41 0, .inr (2, figL (X2_init_w0 (fun _ => 0) 1))), (u70_41 1, .inr (2, figL (X2_init_w0 (fun _ => 0) 0))), (q65_51, .inr (1, [.ref ql, .ref (u70_54 0), .ref (u70_54 1)])), (u70_54 0, .inr (2, figL (X2_init_w0 (fun _ => 0) 1))), (u70_54 1, .inr (2, figL (X2_init_w0 (fun _ => 0) 0))), (q65_64, .inr (1, [.ref ql, .ref (u70_67 0), .ref (u70_67 1)])), (u70_67 0, .inr (2, figL (X2_init_w0 (fun _ => 0) 1))), (u70_67 1, .inr (2, figL (X2_init_w0 (fun _ => 0) 0))), (q65_77, .inr (1, [.ref ql, .ref (u70_80 0), .ref (u70_80 1)])), (u70_80 0, .inr (2, figL (X2_init_w0 (fun _ => 0) 1))), (u70_80 1, .inr (2, figL (X2_init_w0 (fun _ => 0) 0)))] H := hP1
  have hD : va_D A [(h0, .inr (3, [.int 0, .ref ql, .ref q42_25, .ref q11_8, .ref q19_12, .ref q26_16, .int 0])), (q11_8, .inl (cY 3, 5, .inr (.inr (.inr (.inr (va_up (va_up (va_up (fun _ => none) (0 : Int32).toNatClampNeg (some q65_38)) (1 : Int32).toNatClampNeg (some q65_51)) (2 : Int32).toNatClampNeg (some q65_64))))))), (q19_12, .inl (cY 0, 4, .inl (fun _ => 0))), (q26_16, .inl (cY 0, 4, .inl (fun _ => 0))), (q42_25, .inr (1, [.ref ql, .ref (u47_28 0), .ref (u47_28 1)])), (u47_28 0, .inr (2, figL (X2_init_w0 (fun _ => 0) 1))), (u47_28 1, .inr (2, figL (X2_init_w0 (fun _ => 0) 0))), (q65_38, .inr (1, [.ref ql, .ref (u70_41 0), .ref (u70_41 1)])), (u70_41 0, .inr (2, figL (X2_init_w0 (fun _ => 0) 1))), (u70_41 1, .inr (2, figL (X2_init_w0 (fun _ => 0) 0))), (q65_51, .inr (1, [.ref ql, .ref (u70_54 0), .ref (u70_54 1)])), (u70_54 0, .inr (2, figL (X2_init_w0 (fun _ => 0) 1))), (u70_54 1, .inr (2, figL (X2_init_w0 (fun _ => 0) 0))), (q65_64, .inr (1, [.ref ql, .ref (u70_67 0), .ref (u70_67 1)])), (u70_67 0, .inr (2, figL (X2_init_w0 (fun _ => 0) 1))), (u70_67 1, .inr (2, figL (X2_init_w0 (fun _ => 0) 0))), (q65_77, .inr (1, [.ref ql, .ref (u70_80 0), .ref (u70_80 1)])), (u70_80 0, .inr (2, figL (X2_init_w0 (fun _ => 0) 1))), (u70_80 1, .inr (2, figL (X2_init_w0 (fun _ => 0) 0)))] := hD1
  have hS := hS1
  clear hP1 hD1 hS1
  refine W.widen (k := 18) (n := 188) (Nat.le_of_ble_eq_true rfl) (Nat.le_of_ble_eq_true rfl) ?_
  refine va_astq hx hb hK hP hD hS 1 3 16 1 rfl rfl rfl rfl (vin rfl) dX3_init_73 (fun H locs hP1 hD1 hS1 => ?_)
  clear hP hD hS
  have hP : va_P (dC, dI) vwCl [(h0, .inr (3, [.int 0, .ref ql, .ref q42_25, .ref q11_8, .ref q19_12, .ref q26_16, .int 0])), (q11_8, .inl (cY 3, 5, .inr (.inr (.inr (.inr (va_up (va_up (va_up (va_up (fun _ => none) (0 : Int32).toNatClampNeg (some q65_38)) (1 : Int32).toNatClampNeg (some q65_51)) (2 : Int32).toNatClampNeg (some q65_64)) (3 : Int32).toNatClampNeg (some q65_77))))))), (q19_12, .inl (cY 0, 4, .inl (fun _ => 0))), (q26_16, .inl (cY 0, 4, .inl (fun _ => 0))), (q42_25, .inr (1, [.ref ql, .ref (u47_28 0), .ref (u47_28 1)])), (u47_28 0, .inr (2, figL (X2_init_w0 (fun _ => 0) 1))), (u47_28 1, .inr (2, figL (X2_init_w0 (fun _ => 0) 0))), (q65_38, .inr (1, [.ref ql, .ref (u70_41 0), .ref (u70_41 1)])), (u70_41 0, .inr (2, figL (X2_init_w0 (fun _ => 0) 1))), (u70_41 1, .inr (2, figL (X2_init_w0 (fun _ => 0) 0))), (q65_51, .inr (1, [.ref ql, .ref (u70_54 0), .ref (u70_54 1)])), (u70_54 0, .inr (2, figL (X2_init_w0 (fun _ => 0) 1))), (u70_54 1, .inr (2, figL (X2_init_w0 (fun _ => 0) 0))), (q65_64, .inr (1, [.ref ql, .ref (u70_67 0), .ref (u70_67 1)])), (u70_67 0, .inr (2, figL (X2_init_w0 (fun _ => 0) 1))), (u70_67 1, .inr (2, figL (X2_init_w0 (fun _ => 0) 0))), (q65_77, .inr (1, [.ref ql, .ref (u70_80 0), .ref (u70_80 1)])), (u70_80 0, .inr (2, figL (X2_init_w0 (fun _ => 0) 1))), (u70_80 1, .inr (2, figL (X2_init_w0 (fun _ => 0) 0)))] H := hP1
  have hD : va_D A [(h0, .inr (3, [.int 0, .ref ql, .ref q42_25, .ref q11_8, .ref q19_12, .ref q26_16, .int 0])), (q11_8, .inl (cY 3, 5, .inr (.inr (.inr (.inr (va_up (va_up (va_up (va_up (fun _ => none) (0 : Int32).toNatClampNeg (some q65_38)) (1 : Int32).toNatClampNeg (some q65_51)) (2 : Int32).toNatClampNeg (some q65_64)) (3 : Int32).toNatClampNeg (some q65_77))))))), (q19_12, .inl (cY 0, 4, .inl (fun _ => 0))), (q26_16, .inl (cY 0, 4, .inl (fun _ => 0))), (q42_25, .inr (1, [.ref ql, .ref (u47_28 0), .ref (u47_28 1)])), (u47_28 0, .inr (2, figL (X2_init_w0 (fun _ => 0) 1))), (u47_28 1, .inr (2, figL (X2_init_w0 (fun _ => 0) 0))), (q65_38, .inr (1, [.ref ql, .ref (u70_41 0), .ref (u70_41 1)])), (u70_41 0, .inr (2, figL (X2_init_w0 (fun _ => 0) 1))), (u70_41 1, .inr (2, figL (X2_init_w0 (fun _ => 0) 0))), (q65_51, .inr (1, [.ref ql, .ref (u70_54 0), .ref (u70_54 1)])), (u70_54 0, .inr (2, figL (X2_init_w0 (fun _ => 0) 1))), (u70_54 1, .inr (2, figL (X2_init_w0 (fun _ => 0) 0))), (q65_64, .inr (1, [.ref ql, .ref (u70_67 0), .ref (u70_67 1)])), (u70_67 0, .inr (2, figL (X2_init_w0 (fun _ => 0) 1))), (u70_67 1, .inr (2, figL (X2_init_w0 (fun _ => 0) 0))), (q65_77, .inr (1, [.ref ql, .ref (u70_80 0), .ref (u70_80 1)])), (u70_80 0, .inr (2, figL (X2_init_w0 (fun _ => 0) 1))), (u70_80 1, .inr (2, figL (X2_init_w0 (fun _ => 0) 0)))] := hD1
  have hS := hS1
  clear hP1 hD1 hS1
  refine lv_iinc (v := 4) (lv' := [(2, .int 4), (0, .ref h0), (1, .ref ql)]) hx hb dX3_init_74 hl (k := 0) rfl (by first | rfl | decide) (by decide) rfl (fun ls hl => ?_)
  refine lv_goto (tgt := 55) hx hb dX3_init_77 (by decide) ?_
  refine lv_iload_n hx hb dX3_init_55 rfl (lv_at hl 0 rfl) ?_
  refine lv_iconst (v := 4) hx hb dX3_init_56 (by decide) ?_
  refine lv_icmp_gt (tgt := 80) hx hb dX3_init_57 (by decide) (fun c_86 => ?_) (fun c_86 => ?_)
  · exact absurd c_86 (by decide)
  refine lv_aload_n hx hb dX3_init_60 rfl (lv_at hl 1 rfl) ?_
  refine va_get (D := (dC, dI)) (ci := 3) (v := .ref q11_8) (C := RX3) (T := TX3) (N := 7) hx hb hts inw_X3_init_X3 hown hK hP 0 rfl rfl 3 (by decide) (hts (.fieldLink RX3 17 "DuelFrames$Lab" "behindHits" "[LDuelFrames$Duel;") (List.mem_of_getElem? (i := 6) rfl)) (fun _ h9 => h9) rfl dX3_init_61 ?_
  refine lv_iload_n hx hb dX3_init_64 rfl (lv_at hl 0 rfl) ?_
  refine va_new (D := (dC, dI)) (ci := 1) (fs := [.null, .null, .null]) (C := RX1) (T := TX1) (N := 3) hx hb hts inw_X3_init_X1 tyX1 tyX1_ok hown (hts (.classLink RX3 15 RX1) (List.mem_of_getElem? (i := 5) rfl)) (hts (.instantiable RX1 3) (List.mem_of_getElem? (i := 12) rfl)) (hts (.initialized RX1) (List.mem_of_getElem? (i := 13) rfl)) hK hP hD hS hA rfl (fun j hj => by rcases (show j = 0 ∨ j = 1 ∨ j = 2 by omega) with rfl | rfl | rfl <;> rfl) (Nat.le_of_ble_eq_true rfl) (Nat.le_of_ble_eq_true rfl) dX3_init_65 (fun q65_90 H hP1 hD1 hS1 => ?_)
  clear hP hD hS
  have hP : va_P (dC, dI) vwCl [(h0, .inr (3, [.int 0, .ref ql, .ref q42_25, .ref q11_8, .ref q19_12, .ref q26_16, .int 0])), (q11_8, .inl (cY 3, 5, .inr (.inr (.inr (.inr (va_up (va_up (va_up (va_up (fun _ => none) (0 : Int32).toNatClampNeg (some q65_38)) (1 : Int32).toNatClampNeg (some q65_51)) (2 : Int32).toNatClampNeg (some q65_64)) (3 : Int32).toNatClampNeg (some q65_77))))))), (q19_12, .inl (cY 0, 4, .inl (fun _ => 0))), (q26_16, .inl (cY 0, 4, .inl (fun _ => 0))), (q42_25, .inr (1, [.ref ql, .ref (u47_28 0), .ref (u47_28 1)])), (u47_28 0, .inr (2, figL (X2_init_w0 (fun _ => 0) 1))), (u47_28 1, .inr (2, figL (X2_init_w0 (fun _ => 0) 0))), (q65_38, .inr (1, [.ref ql, .ref (u70_41 0), .ref (u70_41 1)])), (u70_41 0, .inr (2, figL (X2_init_w0 (fun _ => 0) 1))), (u70_41 1, .inr (2, figL (X2_init_w0 (fun _ => 0) 0))), (q65_51, .inr (1, [.ref ql, .ref (u70_54 0), .ref (u70_54 1)])), (u70_54 0, .inr (2, figL (X2_init_w0 (fun _ => 0) 1))), (u70_54 1, .inr (2, figL (X2_init_w0 (fun _ => 0) 0))), (q65_64, .inr (1, [.ref ql, .ref (u70_67 0), .ref (u70_67 1)])), (u70_67 0, .inr (2, figL (X2_init_w0 (fun _ => 0) 1))), (u70_67 1, .inr (2, figL (X2_init_w0 (fun _ => 0) 0))), (q65_77, .inr (1, [.ref ql, .ref (u70_80 0), .ref (u70_80 1)])), (u70_80 0, .inr (2, figL (X2_init_w0 (fun _ => 0) 1))), (u70_80 1, .inr (2, figL (X2_init_w0 (fun _ => 0) 0))), (q65_90, .inr (1, [.null, .null, .null]))] H := hP1
  have hD : va_D A [(h0, .inr (3, [.int 0, .ref ql, .ref q42_25, .ref q11_8, .ref q19_12, .ref q26_16, .int 0])), (q11_8, .inl (cY 3, 5, .inr (.inr (.inr (.inr (va_up (va_up (va_up (va_up (fun _ => none) (0 : Int32).toNatClampNeg (some q65_38)) (1 : Int32).toNatClampNeg (some q65_51)) (2 : Int32).toNatClampNeg (some q65_64)) (3 : Int32).toNatClampNeg (some q65_77))))))), (q19_12, .inl (cY 0, 4, .inl (fun _ => 0))), (q26_16, .inl (cY 0, 4, .inl (fun _ => 0))), (q42_25, .inr (1, [.ref ql, .ref (u47_28 0), .ref (u47_28 1)])), (u47_28 0, .inr (2, figL (X2_init_w0 (fun _ => 0) 1))), (u47_28 1, .inr (2, figL (X2_init_w0 (fun _ => 0) 0))), (q65_38, .inr (1, [.ref ql, .ref (u70_41 0), .ref (u70_41 1)])), (u70_41 0, .inr (2, figL (X2_init_w0 (fun _ => 0) 1))), (u70_41 1, .inr (2, figL (X2_init_w0 (fun _ => 0) 0))), (q65_51, .inr (1, [.ref ql, .ref (u70_54 0), .ref (u70_54 1)])), (u70_54 0, .inr (2, figL (X2_init_w0 (fun _ => 0) 1))), (u70_54 1, .inr (2, figL (X2_init_w0 (fun _ => 0) 0))), (q65_64, .inr (1, [.ref ql, .ref (u70_67 0), .ref (u70_67 1)])), (u70_67 0, .inr (2, figL (X2_init_w0 (fun _ => 0) 1))), (u70_67 1, .inr (2, figL (X2_init_w0 (fun _ => 0) 0))), (q65_77, .inr (1, [.ref ql, .ref (u70_80 0), .ref (u70_80 1)])), (u70_80 0, .inr (2, figL (X2_init_w0 (fun _ => 0) 1))), (u70_80 1, .inr (2, figL (X2_init_w0 (fun _ => 0) 0))), (q65_90, .inr (1, [.null, .null, .null]))] := hD1
  have hS := hS1
  clear hP1 hD1 hS1
  refine W.widen (k := 19) (n := 191) (Nat.le_of_ble_eq_true rfl) (Nat.le_of_ble_eq_true rfl) ?_
  refine lv_dup hx hb dX3_init_68 rfl ?_
  refine lv_aload_n hx hb dX3_init_69 rfl (lv_at hl 2 rfl) ?_
  have hPc := hP.sub (ws' := [(q65_90, .inr (1, [.null, .null, .null]))]) [19] rfl
  have hDc := hD.sub (ws' := [(q65_90, .inr (1, [.null, .null, .null]))]) [19] (by decide) rfl
  have hFc := va_free (wc := [(q65_90, .inr (1, [.null, .null, .null]))]) hD hS hA [19] rfl
  refine va_callv (va_runI (As := [.ref ql]) (rest := [.ref q65_90, .int 4, .ref q11_8]) ⟨hx, hb, hml, hown, hts⟩ (c_X1_init l dC dI cY q65_90 ql H.size) (cwI 1 hts gX3_init_X1_init rfl rfl rfl (hts (.initialized RX1) (List.mem_of_getElem? (i := 13) rfl)) (hts (.methodLink RX3 35 yX1_init) (List.mem_of_getElem? (i := 15) rfl)) (hts (.instanceMethod yX1_init) (List.mem_of_getElem? (i := 16) rfl)) rfl (by decide +kernel) ⟨(Nat.le_of_ble_eq_true rfl), (Nat.le_of_ble_eq_true rfl)⟩) ⟨blindW, fun U hU hW => ⟨rfl, wPre_of hPc hK hN hDc U hU hW⟩⟩ rfl rfl hl.1 rfl (lv_room (Nat.le_of_ble_eq_true rfl)) dX3_init_70 ⟨(Nat.le_of_ble_eq_true rfl), (Nat.le_of_ble_eq_true rfl)⟩) hS (fun q _ h => hFc q h) hFc (fun u70_93 t H1 locs ht hvm hw hB hz1 hk1 hS1 => ?_)
  have hJ := wJoin (wr := [(h0, .inr (3, [.int 0, .ref ql, .ref q42_25, .ref q11_8, .ref q19_12, .ref q26_16, .int 0])), (q11_8, .inl (cY 3, 5, .inr (.inr (.inr (.inr (va_up (va_up (va_up (va_up (fun _ => none) (0 : Int32).toNatClampNeg (some q65_38)) (1 : Int32).toNatClampNeg (some q65_51)) (2 : Int32).toNatClampNeg (some q65_64)) (3 : Int32).toNatClampNeg (some q65_77))))))), (q19_12, .inl (cY 0, 4, .inl (fun _ => 0))), (q26_16, .inl (cY 0, 4, .inl (fun _ => 0))), (q42_25, .inr (1, [.ref ql, .ref (u47_28 0), .ref (u47_28 1)])), (u47_28 0, .inr (2, figL (X2_init_w0 (fun _ => 0) 1))), (u47_28 1, .inr (2, figL (X2_init_w0 (fun _ => 0) 0))), (q65_38, .inr (1, [.ref ql, .ref (u70_41 0), .ref (u70_41 1)])), (u70_41 0, .inr (2, figL (X2_init_w0 (fun _ => 0) 1))), (u70_41 1, .inr (2, figL (X2_init_w0 (fun _ => 0) 0))), (q65_51, .inr (1, [.ref ql, .ref (u70_54 0), .ref (u70_54 1)])), (u70_54 0, .inr (2, figL (X2_init_w0 (fun _ => 0) 1))), (u70_54 1, .inr (2, figL (X2_init_w0 (fun _ => 0) 0))), (q65_64, .inr (1, [.ref ql, .ref (u70_67 0), .ref (u70_67 1)])), (u70_67 0, .inr (2, figL (X2_init_w0 (fun _ => 0) 1))), (u70_67 1, .inr (2, figL (X2_init_w0 (fun _ => 0) 0))), (q65_77, .inr (1, [.ref ql, .ref (u70_80 0), .ref (u70_80 1)])), (u70_80 0, .inr (2, figL (X2_init_w0 (fun _ => 0) 1))), (u70_80 1, .inr (2, figL (X2_init_w0 (fun _ => 0) 0)))]) (w1 := [(q65_90, .inr (1, [.ref ql, .ref (u70_93 0), .ref (u70_93 1)])), (u70_93 0, .inr (2, figL (X2_init_w0 (fun _ => 0) 1))), (u70_93 1, .inr (2, figL (X2_init_w0 (fun _ => 0) 0)))]) (wn := [(h0, .inr (3, [.int 0, .ref ql, .ref q42_25, .ref q11_8, .ref q19_12, .ref q26_16, .int 0])), (q11_8, .inl (cY 3, 5, .inr (.inr (.inr (.inr (va_up (va_up (va_up (va_up (fun _ => none) (0 : Int32).toNatClampNeg (some q65_38)) (1 : Int32).toNatClampNeg (some q65_51)) (2 : Int32).toNatClampNeg (some q65_64)) (3 : Int32).toNatClampNeg (some q65_77))))))), (q19_12, .inl (cY 0, 4, .inl (fun _ => 0))), (q26_16, .inl (cY 0, 4, .inl (fun _ => 0))), (q42_25, .inr (1, [.ref ql, .ref (u47_28 0), .ref (u47_28 1)])), (u47_28 0, .inr (2, figL (X2_init_w0 (fun _ => 0) 1))), (u47_28 1, .inr (2, figL (X2_init_w0 (fun _ => 0) 0))), (q65_38, .inr (1, [.ref ql, .ref (u70_41 0), .ref (u70_41 1)])), (u70_41 0, .inr (2, figL (X2_init_w0 (fun _ => 0) 1))), (u70_41 1, .inr (2, figL (X2_init_w0 (fun _ => 0) 0))), (q65_51, .inr (1, [.ref ql, .ref (u70_54 0), .ref (u70_54 1)])), (u70_54 0, .inr (2, figL (X2_init_w0 (fun _ => 0) 1))), (u70_54 1, .inr (2, figL (X2_init_w0 (fun _ => 0) 0))), (q65_64, .inr (1, [.ref ql, .ref (u70_67 0), .ref (u70_67 1)])), (u70_67 0, .inr (2, figL (X2_init_w0 (fun _ => 0) 1))), (u70_67 1, .inr (2, figL (X2_init_w0 (fun _ => 0) 0))), (q65_77, .inr (1, [.ref ql, .ref (u70_80 0), .ref (u70_80 1)])), (u70_80 0, .inr (2, figL (X2_init_w0 (fun _ => 0) 1))), (u70_80 1, .inr (2, figL (X2_init_w0 (fun _ => 0) 0))), (q65_90, .inr (1, [.ref ql, .ref (u70_93 0), .ref (u70_93 1)])), (u70_93 0, .inr (2, figL (X2_init_w0 (fun _ => 0) 1))), (u70_93 1, .inr (2, figL (X2_init_w0 (fun _ => 0) 0)))]) hP hD [19] [0, 1, 2, 3, 4, 5, 6, 7, 8, 9, 10, 11, 12, 13, 14, 15, 16, 17, 18] rfl rfl (by decide +kernel) (by decide +kernel) hk1 hFc hB ht [0, 1, 2, 3, 4, 5, 6, 7, 8, 9, 10, 11, 12, 13, 14, 15, 16, 17, 18, 19, 20, 21] rfl (by decide +kernel)
  clear hB hk1 hFc hPc hDc hP hD hS hz1 hvm ht t
  obtain ⟨hP1, hD1⟩ := hJ
  generalize H1 = H at hP1 hS1 ⊢
  have hP : va_P (dC, dI) vwCl [(h0, .inr (3, [.int 0, .ref ql, .ref q42_25, .ref q11_8, .ref q19_12, .ref q26_16, .int 0])), (q11_8, .inl (cY 3, 5, .inr (.inr (.inr (.inr (va_up (va_up (va_up (va_up (fun _ => none) (0 : Int32).toNatClampNeg (some q65_38)) (1 : Int32).toNatClampNeg (some q65_51)) (2 : Int32).toNatClampNeg (some q65_64)) (3 : Int32).toNatClampNeg (some q65_77))))))), (q19_12, .inl (cY 0, 4, .inl (fun _ => 0))), (q26_16, .inl (cY 0, 4, .inl (fun _ => 0))), (q42_25, .inr (1, [.ref ql, .ref (u47_28 0), .ref (u47_28 1)])), (u47_28 0, .inr (2, figL (X2_init_w0 (fun _ => 0) 1))), (u47_28 1, .inr (2, figL (X2_init_w0 (fun _ => 0) 0))), (q65_38, .inr (1, [.ref ql, .ref (u70_41 0), .ref (u70_41 1)])), (u70_41 0, .inr (2, figL (X2_init_w0 (fun _ => 0) 1))), (u70_41 1, .inr (2, figL (X2_init_w0 (fun _ => 0) 0))), (q65_51, .inr (1, [.ref ql, .ref (u70_54 0), .ref (u70_54 1)])), (u70_54 0, .inr (2, figL (X2_init_w0 (fun _ => 0) 1))), (u70_54 1, .inr (2, figL (X2_init_w0 (fun _ => 0) 0))), (q65_64, .inr (1, [.ref ql, .ref (u70_67 0), .ref (u70_67 1)])), (u70_67 0, .inr (2, figL (X2_init_w0 (fun _ => 0) 1))), (u70_67 1, .inr (2, figL (X2_init_w0 (fun _ => 0) 0))), (q65_77, .inr (1, [.ref ql, .ref (u70_80 0), .ref (u70_80 1)])), (u70_80 0, .inr (2, figL (X2_init_w0 (fun _ => 0) 1))), (u70_80 1, .inr (2, figL (X2_init_w0 (fun _ => 0) 0))), (q65_90, .inr (1, [.ref ql, .ref (u70_93 0), .ref (u70_93 1)])), (u70_93 0, .inr (2, figL (X2_init_w0 (fun _ => 0) 1))), (u70_93 1, .inr (2, figL (X2_init_w0 (fun _ => 0) 0)))] H := hP1
  have hD : va_D A [(h0, .inr (3, [.int 0, .ref ql, .ref q42_25, .ref q11_8, .ref q19_12, .ref q26_16, .int 0])), (q11_8, .inl (cY 3, 5, .inr (.inr (.inr (.inr (va_up (va_up (va_up (va_up (fun _ => none) (0 : Int32).toNatClampNeg (some q65_38)) (1 : Int32).toNatClampNeg (some q65_51)) (2 : Int32).toNatClampNeg (some q65_64)) (3 : Int32).toNatClampNeg (some q65_77))))))), (q19_12, .inl (cY 0, 4, .inl (fun _ => 0))), (q26_16, .inl (cY 0, 4, .inl (fun _ => 0))), (q42_25, .inr (1, [.ref ql, .ref (u47_28 0), .ref (u47_28 1)])), (u47_28 0, .inr (2, figL (X2_init_w0 (fun _ => 0) 1))), (u47_28 1, .inr (2, figL (X2_init_w0 (fun _ => 0) 0))), (q65_38, .inr (1, [.ref ql, .ref (u70_41 0), .ref (u70_41 1)])), (u70_41 0, .inr (2, figL (X2_init_w0 (fun _ => 0) 1))), (u70_41 1, .inr (2, figL (X2_init_w0 (fun _ => 0) 0))), (q65_51, .inr (1, [.ref ql, .ref (u70_54 0), .ref (u70_54 1)])), (u70_54 0, .inr (2, figL (X2_init_w0 (fun _ => 0) 1))), (u70_54 1, .inr (2, figL (X2_init_w0 (fun _ => 0) 0))), (q65_64, .inr (1, [.ref ql, .ref (u70_67 0), .ref (u70_67 1)])), (u70_67 0, .inr (2, figL (X2_init_w0 (fun _ => 0) 1))), (u70_67 1, .inr (2, figL (X2_init_w0 (fun _ => 0) 0))), (q65_77, .inr (1, [.ref ql, .ref (u70_80 0), .ref (u70_80 1)])), (u70_80 0, .inr (2, figL (X2_init_w0 (fun _ => 0) 1))), (u70_80 1, .inr (2, figL (X2_init_w0 (fun _ => 0) 0))), (q65_90, .inr (1, [.ref ql, .ref (u70_93 0), .ref (u70_93 1)])), (u70_93 0, .inr (2, figL (X2_init_w0 (fun _ => 0) 1))), (u70_93 1, .inr (2, figL (X2_init_w0 (fun _ => 0) 0)))] := hD1
  have hS := hS1
  clear hP1 hD1 hS1
  refine W.widen (k := 21) (n := 223) (Nat.le_of_ble_eq_true rfl) (Nat.le_of_ble_eq_true rfl) ?_
  refine va_astq hx hb hK hP hD hS 1 3 19 1 rfl rfl rfl rfl (vin rfl) dX3_init_73 (fun H locs hP1 hD1 hS1 => ?_)
  clear hP hD hS
  have hP : va_P (dC, dI) vwCl [(h0, .inr (3, [.int 0, .ref ql, .ref q42_25, .ref q11_8, .ref q19_12, .ref q26_16, .int 0])), (q11_8, .inl (cY 3, 5, .inr (.inr (.inr (.inr (va_up (va_up (va_up (va_up (va_up (fun _ => none) (0 : Int32).toNatClampNeg (some q65_38)) (1 : Int32).toNatClampNeg (some q65_51)) (2 : Int32).toNatClampNeg (some q65_64)) (3 : Int32).toNatClampNeg (some q65_77)) (4 : Int32).toNatClampNeg (some q65_90))))))), (q19_12, .inl (cY 0, 4, .inl (fun _ => 0))), (q26_16, .inl (cY 0, 4, .inl (fun _ => 0))), (q42_25, .inr (1, [.ref ql, .ref (u47_28 0), .ref (u47_28 1)])), (u47_28 0, .inr (2, figL (X2_init_w0 (fun _ => 0) 1))), (u47_28 1, .inr (2, figL (X2_init_w0 (fun _ => 0) 0))), (q65_38, .inr (1, [.ref ql, .ref (u70_41 0), .ref (u70_41 1)])), (u70_41 0, .inr (2, figL (X2_init_w0 (fun _ => 0) 1))), (u70_41 1, .inr (2, figL (X2_init_w0 (fun _ => 0) 0))), (q65_51, .inr (1, [.ref ql, .ref (u70_54 0), .ref (u70_54 1)])), (u70_54 0, .inr (2, figL (X2_init_w0 (fun _ => 0) 1))), (u70_54 1, .inr (2, figL (X2_init_w0 (fun _ => 0) 0))), (q65_64, .inr (1, [.ref ql, .ref (u70_67 0), .ref (u70_67 1)])), (u70_67 0, .inr (2, figL (X2_init_w0 (fun _ => 0) 1))), (u70_67 1, .inr (2, figL (X2_init_w0 (fun _ => 0) 0))), (q65_77, .inr (1, [.ref ql, .ref (u70_80 0), .ref (u70_80 1)])), (u70_80 0, .inr (2, figL (X2_init_w0 (fun _ => 0) 1))), (u70_80 1, .inr (2, figL (X2_init_w0 (fun _ => 0) 0))), (q65_90, .inr (1, [.ref ql, .ref (u70_93 0), .ref (u70_93 1)])), (u70_93 0, .inr (2, figL (X2_init_w0 (fun _ => 0) 1))), (u70_93 1, .inr (2, figL (X2_init_w0 (fun _ => 0) 0)))] H := hP1
  have hD : va_D A [(h0, .inr (3, [.int 0, .ref ql, .ref q42_25, .ref q11_8, .ref q19_12, .ref q26_16, .int 0])), (q11_8, .inl (cY 3, 5, .inr (.inr (.inr (.inr (va_up (va_up (va_up (va_up (va_up (fun _ => none) (0 : Int32).toNatClampNeg (some q65_38)) (1 : Int32).toNatClampNeg (some q65_51)) (2 : Int32).toNatClampNeg (some q65_64)) (3 : Int32).toNatClampNeg (some q65_77)) (4 : Int32).toNatClampNeg (some q65_90))))))), (q19_12, .inl (cY 0, 4, .inl (fun _ => 0))), (q26_16, .inl (cY 0, 4, .inl (fun _ => 0))), (q42_25, .inr (1, [.ref ql, .ref (u47_28 0), .ref (u47_28 1)])), (u47_28 0, .inr (2, figL (X2_init_w0 (fun _ => 0) 1))), (u47_28 1, .inr (2, figL (X2_init_w0 (fun _ => 0) 0))), (q65_38, .inr (1, [.ref ql, .ref (u70_41 0), .ref (u70_41 1)])), (u70_41 0, .inr (2, figL (X2_init_w0 (fun _ => 0) 1))), (u70_41 1, .inr (2, figL (X2_init_w0 (fun _ => 0) 0))), (q65_51, .inr (1, [.ref ql, .ref (u70_54 0), .ref (u70_54 1)])), (u70_54 0, .inr (2, figL (X2_init_w0 (fun _ => 0) 1))), (u70_54 1, .inr (2, figL (X2_init_w0 (fun _ => 0) 0))), (q65_64, .inr (1, [.ref ql, .ref (u70_67 0), .ref (u70_67 1)])), (u70_67 0, .inr (2, figL (X2_init_w0 (fun _ => 0) 1))), (u70_67 1, .inr (2, figL (X2_init_w0 (fun _ => 0) 0))), (q65_77, .inr (1, [.ref ql, .ref (u70_80 0), .ref (u70_80 1)])), (u70_80 0, .inr (2, figL (X2_init_w0 (fun _ => 0) 1))), (u70_80 1, .inr (2, figL (X2_init_w0 (fun _ => 0) 0))), (q65_90, .inr (1, [.ref ql, .ref (u70_93 0), .ref (u70_93 1)])), (u70_93 0, .inr (2, figL (X2_init_w0 (fun _ => 0) 1))), (u70_93 1, .inr (2, figL (X2_init_w0 (fun _ => 0) 0)))] := hD1
  have hS := hS1
  clear hP1 hD1 hS1
  refine lv_iinc (v := 5) (lv' := [(2, .int 5), (0, .ref h0), (1, .ref ql)]) hx hb dX3_init_74 hl (k := 0) rfl (by first | rfl | decide) (by decide) rfl (fun ls hl => ?_)
  refine lv_goto (tgt := 55) hx hb dX3_init_77 (by decide) ?_
  refine lv_iload_n hx hb dX3_init_55 rfl (lv_at hl 0 rfl) ?_
  refine lv_iconst (v := 4) hx hb dX3_init_56 (by decide) ?_
  refine lv_icmp_gt (tgt := 80) hx hb dX3_init_57 (by decide) (fun c_99 => ?_) (fun c_99 => ?_)
  rotate_left
  · exact absurd (by decide) c_99
  have hP1 := hP.arq (g := (fun j => some ((fun k => [q65_38, q65_51, q65_64, q65_77, q65_90, u70_41 0, u70_54 0, u70_67 0, u70_80 0, u70_93 0, u70_41 1, u70_54 1, u70_67 1, u70_80 1, u70_93 1, q11_8, q19_12, q26_16, q42_25, u47_28 0, u47_28 1].getD k 0) j))) 1 rfl (fun k hk => by rcases (show k = 0 ∨ k = 1 ∨ k = 2 ∨ k = 3 ∨ k = 4 by omega) with rfl | rfl | rfl | rfl | rfl <;> rfl)
  have hP1 : va_P (dC, dI) vwCl [(h0, .inr (3, [.int 0, .ref ql, .ref q42_25, .ref q11_8, .ref q19_12, .ref q26_16, .int 0])), (q11_8, .inl (cY 3, 5, .inr (.inr (.inr (.inr (fun j => some ((fun k => [q65_38, q65_51, q65_64, q65_77, q65_90, u70_41 0, u70_54 0, u70_67 0, u70_80 0, u70_93 0, u70_41 1, u70_54 1, u70_67 1, u70_80 1, u70_93 1, q11_8, q19_12, q26_16, q42_25, u47_28 0, u47_28 1].getD k 0) j))))))), (q19_12, .inl (cY 0, 4, .inl (fun _ => 0))), (q26_16, .inl (cY 0, 4, .inl (fun _ => 0))), (q42_25, .inr (1, [.ref ql, .ref (u47_28 0), .ref (u47_28 1)])), (u47_28 0, .inr (2, figL (X2_init_w0 (fun _ => 0) 1))), (u47_28 1, .inr (2, figL (X2_init_w0 (fun _ => 0) 0))), (q65_38, .inr (1, [.ref ql, .ref (u70_41 0), .ref (u70_41 1)])), (u70_41 0, .inr (2, figL (X2_init_w0 (fun _ => 0) 1))), (u70_41 1, .inr (2, figL (X2_init_w0 (fun _ => 0) 0))), (q65_51, .inr (1, [.ref ql, .ref (u70_54 0), .ref (u70_54 1)])), (u70_54 0, .inr (2, figL (X2_init_w0 (fun _ => 0) 1))), (u70_54 1, .inr (2, figL (X2_init_w0 (fun _ => 0) 0))), (q65_64, .inr (1, [.ref ql, .ref (u70_67 0), .ref (u70_67 1)])), (u70_67 0, .inr (2, figL (X2_init_w0 (fun _ => 0) 1))), (u70_67 1, .inr (2, figL (X2_init_w0 (fun _ => 0) 0))), (q65_77, .inr (1, [.ref ql, .ref (u70_80 0), .ref (u70_80 1)])), (u70_80 0, .inr (2, figL (X2_init_w0 (fun _ => 0) 1))), (u70_80 1, .inr (2, figL (X2_init_w0 (fun _ => 0) 0))), (q65_90, .inr (1, [.ref ql, .ref (u70_93 0), .ref (u70_93 1)])), (u70_93 0, .inr (2, figL (X2_init_w0 (fun _ => 0) 1))), (u70_93 1, .inr (2, figL (X2_init_w0 (fun _ => 0) 0)))] H := hP1
  have hD1 : va_D A [(h0, .inr (3, [.int 0, .ref ql, .ref q42_25, .ref q11_8, .ref q19_12, .ref q26_16, .int 0])), (q11_8, .inl (cY 3, 5, .inr (.inr (.inr (.inr (fun j => some ((fun k => [q65_38, q65_51, q65_64, q65_77, q65_90, u70_41 0, u70_54 0, u70_67 0, u70_80 0, u70_93 0, u70_41 1, u70_54 1, u70_67 1, u70_80 1, u70_93 1, q11_8, q19_12, q26_16, q42_25, u47_28 0, u47_28 1].getD k 0) j))))))), (q19_12, .inl (cY 0, 4, .inl (fun _ => 0))), (q26_16, .inl (cY 0, 4, .inl (fun _ => 0))), (q42_25, .inr (1, [.ref ql, .ref (u47_28 0), .ref (u47_28 1)])), (u47_28 0, .inr (2, figL (X2_init_w0 (fun _ => 0) 1))), (u47_28 1, .inr (2, figL (X2_init_w0 (fun _ => 0) 0))), (q65_38, .inr (1, [.ref ql, .ref (u70_41 0), .ref (u70_41 1)])), (u70_41 0, .inr (2, figL (X2_init_w0 (fun _ => 0) 1))), (u70_41 1, .inr (2, figL (X2_init_w0 (fun _ => 0) 0))), (q65_51, .inr (1, [.ref ql, .ref (u70_54 0), .ref (u70_54 1)])), (u70_54 0, .inr (2, figL (X2_init_w0 (fun _ => 0) 1))), (u70_54 1, .inr (2, figL (X2_init_w0 (fun _ => 0) 0))), (q65_64, .inr (1, [.ref ql, .ref (u70_67 0), .ref (u70_67 1)])), (u70_67 0, .inr (2, figL (X2_init_w0 (fun _ => 0) 1))), (u70_67 1, .inr (2, figL (X2_init_w0 (fun _ => 0) 0))), (q65_77, .inr (1, [.ref ql, .ref (u70_80 0), .ref (u70_80 1)])), (u70_80 0, .inr (2, figL (X2_init_w0 (fun _ => 0) 1))), (u70_80 1, .inr (2, figL (X2_init_w0 (fun _ => 0) 0))), (q65_90, .inr (1, [.ref ql, .ref (u70_93 0), .ref (u70_93 1)])), (u70_93 0, .inr (2, figL (X2_init_w0 (fun _ => 0) 1))), (u70_93 1, .inr (2, figL (X2_init_w0 (fun _ => 0) 0)))] := va_D.like hD rfl
  clear hP hD
  have hP := hP1
  have hD := hD1
  clear hP1 hD1
  have hP9 := hP.sub (ws' := [(h0, .inr (3, [.int 0, .ref ql, .ref q42_25, .ref q11_8, .ref q19_12, .ref q26_16, .int 0])), (q11_8, .inl (cY 3, 5, .inr (.inr (.inr (.inr (fun j => some ((fun k => [q65_38, q65_51, q65_64, q65_77, q65_90, u70_41 0, u70_54 0, u70_67 0, u70_80 0, u70_93 0, u70_41 1, u70_54 1, u70_67 1, u70_80 1, u70_93 1, q11_8, q19_12, q26_16, q42_25, u47_28 0, u47_28 1].getD k 0) j))))))), (q19_12, .inl (cY 0, 4, .inl (fun _ => 0))), (q26_16, .inl (cY 0, 4, .inl (fun _ => 0))), (q65_38, .inr (1, [.ref ql, .ref (u70_41 0), .ref (u70_41 1)])), (u70_41 0, .inr (2, figL (X2_init_w0 (fun _ => 0) 1))), (u70_41 1, .inr (2, figL (X2_init_w0 (fun _ => 0) 0))), (q65_51, .inr (1, [.ref ql, .ref (u70_54 0), .ref (u70_54 1)])), (u70_54 0, .inr (2, figL (X2_init_w0 (fun _ => 0) 1))), (u70_54 1, .inr (2, figL (X2_init_w0 (fun _ => 0) 0))), (q65_64, .inr (1, [.ref ql, .ref (u70_67 0), .ref (u70_67 1)])), (u70_67 0, .inr (2, figL (X2_init_w0 (fun _ => 0) 1))), (u70_67 1, .inr (2, figL (X2_init_w0 (fun _ => 0) 0))), (q65_77, .inr (1, [.ref ql, .ref (u70_80 0), .ref (u70_80 1)])), (u70_80 0, .inr (2, figL (X2_init_w0 (fun _ => 0) 1))), (u70_80 1, .inr (2, figL (X2_init_w0 (fun _ => 0) 0))), (q65_90, .inr (1, [.ref ql, .ref (u70_93 0), .ref (u70_93 1)])), (u70_93 0, .inr (2, figL (X2_init_w0 (fun _ => 0) 1))), (u70_93 1, .inr (2, figL (X2_init_w0 (fun _ => 0) 0))), (q42_25, .inr (1, [.ref ql, .ref (u47_28 0), .ref (u47_28 1)])), (u47_28 0, .inr (2, figL (X2_init_w0 (fun _ => 0) 1))), (u47_28 1, .inr (2, figL (X2_init_w0 (fun _ => 0) 0)))]) [0, 1, 2, 3, 7, 8, 9, 10, 11, 12, 13, 14, 15, 16, 17, 18, 19, 20, 21, 4, 5, 6] rfl
  have hD9 := hD.sub (ws' := [(h0, .inr (3, [.int 0, .ref ql, .ref q42_25, .ref q11_8, .ref q19_12, .ref q26_16, .int 0])), (q11_8, .inl (cY 3, 5, .inr (.inr (.inr (.inr (fun j => some ((fun k => [q65_38, q65_51, q65_64, q65_77, q65_90, u70_41 0, u70_54 0, u70_67 0, u70_80 0, u70_93 0, u70_41 1, u70_54 1, u70_67 1, u70_80 1, u70_93 1, q11_8, q19_12, q26_16, q42_25, u47_28 0, u47_28 1].getD k 0) j))))))), (q19_12, .inl (cY 0, 4, .inl (fun _ => 0))), (q26_16, .inl (cY 0, 4, .inl (fun _ => 0))), (q65_38, .inr (1, [.ref ql, .ref (u70_41 0), .ref (u70_41 1)])), (u70_41 0, .inr (2, figL (X2_init_w0 (fun _ => 0) 1))), (u70_41 1, .inr (2, figL (X2_init_w0 (fun _ => 0) 0))), (q65_51, .inr (1, [.ref ql, .ref (u70_54 0), .ref (u70_54 1)])), (u70_54 0, .inr (2, figL (X2_init_w0 (fun _ => 0) 1))), (u70_54 1, .inr (2, figL (X2_init_w0 (fun _ => 0) 0))), (q65_64, .inr (1, [.ref ql, .ref (u70_67 0), .ref (u70_67 1)])), (u70_67 0, .inr (2, figL (X2_init_w0 (fun _ => 0) 1))), (u70_67 1, .inr (2, figL (X2_init_w0 (fun _ => 0) 0))), (q65_77, .inr (1, [.ref ql, .ref (u70_80 0), .ref (u70_80 1)])), (u70_80 0, .inr (2, figL (X2_init_w0 (fun _ => 0) 1))), (u70_80 1, .inr (2, figL (X2_init_w0 (fun _ => 0) 0))), (q65_90, .inr (1, [.ref ql, .ref (u70_93 0), .ref (u70_93 1)])), (u70_93 0, .inr (2, figL (X2_init_w0 (fun _ => 0) 1))), (u70_93 1, .inr (2, figL (X2_init_w0 (fun _ => 0) 0))), (q42_25, .inr (1, [.ref ql, .ref (u47_28 0), .ref (u47_28 1)])), (u47_28 0, .inr (2, figL (X2_init_w0 (fun _ => 0) 1))), (u47_28 1, .inr (2, figL (X2_init_w0 (fun _ => 0) 0)))]) [0, 1, 2, 3, 7, 8, 9, 10, 11, 12, 13, 14, 15, 16, 17, 18, 19, 20, 21, 4, 5, 6] (by decide +kernel) rfl
  refine W.widen (k := 21) (n := 223) (Nat.le_of_ble_eq_true rfl) (Nat.le_of_ble_eq_true rfl) ?_
  exact W.vret hx hb hr (fun t ht hW => ⟨⟨(fun k => [q65_38, q65_51, q65_64, q65_77, q65_90, u70_41 0, u70_54 0, u70_67 0, u70_80 0, u70_93 0, u70_41 1, u70_54 1, u70_67 1, u70_80 1, u70_93 1, q11_8, q19_12, q26_16, q42_25, u47_28 0, u47_28 1].getD k 0), rfl, trivial, wPost_of hP9 hD9 ht⟩, hS.F ht⟩) hS.2.2 dX3_init_80
theorem inw_X8_init_X8 : ∀ w ∈ u_ws RX8 TX8 17, w ∈ wsX8_init := fun _ h => List.mem_cons_of_mem _ (List.mem_append_right _ h)
theorem c_X8_init (l : Launch) (dC : Nat → ClassId) (dI : Nat → Nat → Nat) (cY : Nat → ClassId) (h0 : Nat) (sz : Nat) : Met l yX8_init wsX8_init ({ frames := 1, cells := 8, slots := 8650, locals := 20 } : Room) (va_Pc [.ref h0] (wPre (dC, dI) (tyL cY) [(h0, .inr (8, [.null, .int 0, .null, .null, .null, .null, .null, .int 0, .int 0, .int 0, .int 0, .int 0, .int 0, .null, .null, .int 0, .int 0]))] sz)) (va_Qv (fun u : Nat → Nat => True) (fun u : Nat → Nat => wPost (dC, dI) [(h0, .inr (8, mdL u (upd (upd (fun _ => 0) 7 (-1)) 10 (-1)))), (u 0, .inl (cY 0, 72, .inl (fun _ => 0))), (u 2, .inl (cY 0, 22, .inl (fun _ => 0))), (u 3, .inl (cY 0, 22, .inl (upd (upd (fun _ => 0) 4 (-1)) 15 (-1)))), (u 4, .inl (cY 0, 110, .inl (fun _ => 0))), (u 5, .inl (cY 0, 8414, .inl (fun _ => 0))), (u 6, .inl (cY 0, 2, .inl (fun _ => 0))), (u 13, .inl (cY 0, 4, .inl (fun _ => 0))), (u 14, .inl (cY 0, 4, .inl (fun _ => 0)))] (va_A [(h0, .inr (8, [.null, .int 0, .null, .null, .null, .null, .null, .int 0, .int 0, .int 0, .int 0, .int 0, .int 0, .null, .null, .int 0, .int 0]))] sz) ()) (va_A [(h0, .inr (8, [.null, .int 0, .null, .null, .null, .null, .null, .int 0, .int 0, .int 0, .int 0, .int 0, .int 0, .null, .null, .int 0, .int 0]))] sz)) 8 8650 (va_A [(h0, .inr (8, [.null, .int 0, .null, .null, .null, .null, .null, .int 0, .int 0, .int 0, .int 0, .int 0, .int 0, .null, .null, .int 0, .int 0]))] sz) := by
  refine Met.ofW (cc := cX8_init) (maxL := 1) (ret := none) (by decide) rfl ?_
  intro p e s m args below meth c s₁ B hml hv
  obtain ⟨rfl, hsz, hP, hK, hN, hD0⟩ := hv
  have hx := B.exec
  have hb := B.bytes
  have hr := B.returns
  have hts := atoms_spec (ws := wsX8_init) B.pre
  have hown : s.vm.findClass RX8 = some m.cls := findClass_of_methodNamed B.named
  have hlocks := B.notSynchronized
  have hin : meth.name = "<init>" := (name_of_methodNamed B.named B.method).1
  subst hsz
  have hD := hD0.self (sz := s.heap.size)
  generalize hAe : va_A [(h0, .inr (8, [.null, .int 0, .null, .null, .null, .null, .null, .int 0, .int 0, .int 0, .int 0, .int 0, .int 0, .null, .null, .int 0, .int 0]))] s.heap.size = A at hD ⊢
  have hA : ∀ q : Nat, s.heap.size ≤ q → A q := fun q h => by rw [← hAe]; exact Or.inr h
  have hS : va_S A s.heap s.heap [] := va_S.rf
  have hP : va_P (dC, dI) vwCl [(h0, .inr (8, [.null, .int 0, .null, .null, .null, .null, .null, .int 0, .int 0, .int 0, .int 0, .int 0, .int 0, .null, .null, .int 0, .int 0]))] s.heap := hP
  have hl := lv_entry ([.ref h0]) (n := 1) (Nat.le_of_ble_eq_true rfl)
  rw [lg_entry_eq]
  generalize (lg_sl ([.ref h0]) ++ List.replicate (1 - (lg_sl ([.ref h0])).length) Slot.unset).toArray = ls at hl ⊢
  have hl : lv_has ls 1 [(0, .ref h0)] := hl
  refine lv_aload_n hx hb dX8_init_0 rfl (lv_at hl 0 rfl) ?_
  refine W.objInit hx hb hown (hts (.methodLink RX8 1 objectInit) (List.mem_of_getElem? (i := 1) rfl)) (hts (.instanceMethod objectInit) (List.mem_of_getElem? (i := 2) rfl)) (hts (.code objectInit ⟨#[0xb1]⟩ 1 none) (List.mem_of_getElem? (i := 3) rfl)) rfl (by rw [hml]; exact hl.1) rfl dX8_init_1 (Nat.le_of_ble_eq_true rfl) (Nat.le_of_ble_eq_true rfl) ?_
  refine W.eq (g2 := F0 m 4 ls []) rfl ?_
  refine lv_aload_n hx hb dX8_init_4 rfl (lv_at hl 0 rfl) ?_
  refine lv_bipush (v := 72) hx hb dX8_init_5 (by decide) ?_
  refine va_newa (D := (dC, dI)) (atype := .int) (ty := .int) (a0 := (72, .inl (fun _ => 0))) (N' := 72) hx hb (hts (.arrayClass .int) (List.mem_of_getElem? (i := 4) rfl)) rfl hK hP hD hS hA (fun _ => rfl) (by decide) (by decide +kernel) (Nat.le_of_ble_eq_true rfl) (Nat.le_of_ble_eq_true rfl) (Nat.le_of_ble_eq_true rfl) dX8_init_7 (fun q7_5 cA H hK1 hP1 hD1 hS1 => ?_)
  obtain rfl : cA = cY 0 := ra_i (hK1.2 5 (cA, .int) rfl).2 (hK1.2 0 (cY 0, .int) rfl).2
  clear hK1
  clear hP hD hS
  have hP : va_P (dC, dI) vwCl [(h0, .inr (8, [.null, .int 0, .null, .null, .null, .null, .null, .int 0, .int 0, .int 0, .int 0, .int 0, .int 0, .null, .null, .int 0, .int 0])), (q7_5, .inl (cY 0, 72, .inl (fun _ => 0)))] H := hP1
  have hD : va_D A [(h0, .inr (8, [.null, .int 0, .null, .null, .null, .null, .null, .int 0, .int 0, .int 0, .int 0, .int 0, .int 0, .null, .null, .int 0, .int 0])), (q7_5, .inl (cY 0, 72, .inl (fun _ => 0)))] := hD1
  have hS := hS1
  clear hP1 hD1 hS1
  refine W.widen (k := 1) (n := 72) (Nat.le_of_ble_eq_true rfl) (Nat.le_of_ble_eq_true rfl) ?_
  refine va_putF (D := (dC, dI)) (ci := 8) (v := .ref q7_5) (ty := (.array .int)) (C := RX8) (T := TX8) (N := 17) hx hb hts inw_X8_init_X8 tyX8 tyX8_ok nmX8 hown hK hP hD hS 0 rfl rfl 0 (by decide) (hts (.fieldLink RX8 7 "DuelFramesModel" "table" "[I") (List.mem_of_getElem? (i := 5) rfl)) (fun _ h9 => h9) rfl hin rfl (by decide +kernel) rfl rfl (Nat.le_of_ble_eq_true rfl) dX8_init_9 (fun H locs hP1 hD1 hS1 => ?_)
  clear hP hD hS
  have hP : va_P (dC, dI) vwCl [(h0, .inr (8, [.ref q7_5, .int 0, .null, .null, .null, .null, .null, .int 0, .int 0, .int 0, .int 0, .int 0, .int 0, .null, .null, .int 0, .int 0])), (q7_5, .inl (cY 0, 72, .inl (fun _ => 0)))] H := hP1
  have hD : va_D A [(h0, .inr (8, [.ref q7_5, .int 0, .null, .null, .null, .null, .null, .int 0, .int 0, .int 0, .int 0, .int 0, .int 0, .null, .null, .int 0, .int 0])), (q7_5, .inl (cY 0, 72, .inl (fun _ => 0)))] := hD1
  have hS := hS1
  clear hP1 hD1 hS1
  refine lv_aload_n hx hb dX8_init_12 rfl (lv_at hl 0 rfl) ?_
  refine lv_bipush (v := 22) hx hb dX8_init_13 (by decide) ?_
  refine va_newa (D := (dC, dI)) (atype := .int) (ty := .int) (a0 := (22, .inl (fun _ => 0))) (N' := 22) hx hb (hts (.arrayClass .int) (List.mem_of_getElem? (i := 4) rfl)) rfl hK hP hD hS hA (fun _ => rfl) (by decide) (by decide +kernel) (Nat.le_of_ble_eq_true rfl) (Nat.le_of_ble_eq_true rfl) (Nat.le_of_ble_eq_true rfl) dX8_init_15 (fun q15_9 cA H hK1 hP1 hD1 hS1 => ?_)
  obtain rfl : cA = cY 0 := ra_i (hK1.2 5 (cA, .int) rfl).2 (hK1.2 0 (cY 0, .int) rfl).2
  clear hK1
  clear hP hD hS
  have hP : va_P (dC, dI) vwCl [(h0, .inr (8, [.ref q7_5, .int 0, .null, .null, .null, .null, .null, .int 0, .int 0, .int 0, .int 0, .int 0, .int 0, .null, .null, .int 0, .int 0])), (q7_5, .inl (cY 0, 72, .inl (fun _ => 0))), (q15_9, .inl (cY 0, 22, .inl (fun _ => 0)))] H := hP1
  have hD : va_D A [(h0, .inr (8, [.ref q7_5, .int 0, .null, .null, .null, .null, .null, .int 0, .int 0, .int 0, .int 0, .int 0, .int 0, .null, .null, .int 0, .int 0])), (q7_5, .inl (cY 0, 72, .inl (fun _ => 0))), (q15_9, .inl (cY 0, 22, .inl (fun _ => 0)))] := hD1
  have hS := hS1
  clear hP1 hD1 hS1
  refine W.widen (k := 2) (n := 94) (Nat.le_of_ble_eq_true rfl) (Nat.le_of_ble_eq_true rfl) ?_
  refine va_putF (D := (dC, dI)) (ci := 8) (v := .ref q15_9) (ty := (.array .int)) (C := RX8) (T := TX8) (N := 17) hx hb hts inw_X8_init_X8 tyX8 tyX8_ok nmX8 hown hK hP hD hS 0 rfl rfl 2 (by decide) (hts (.fieldLink RX8 13 "DuelFramesModel" "s" "[I") (List.mem_of_getElem? (i := 6) rfl)) (fun _ h9 => h9) rfl hin rfl (by decide +kernel) rfl rfl (Nat.le_of_ble_eq_true rfl) dX8_init_17 (fun H locs hP1 hD1 hS1 => ?_)
  clear hP hD hS
  have hP : va_P (dC, dI) vwCl [(h0, .inr (8, [.ref q7_5, .int 0, .ref q15_9, .null, .null, .null, .null, .int 0, .int 0, .int 0, .int 0, .int 0, .int 0, .null, .null, .int 0, .int 0])), (q7_5, .inl (cY 0, 72, .inl (fun _ => 0))), (q15_9, .inl (cY 0, 22, .inl (fun _ => 0)))] H := hP1
  have hD : va_D A [(h0, .inr (8, [.ref q7_5, .int 0, .ref q15_9, .null, .null, .null, .null, .int 0, .int 0, .int 0, .int 0, .int 0, .int 0, .null, .null, .int 0, .int 0])), (q7_5, .inl (cY 0, 72, .inl (fun _ => 0))), (q15_9, .inl (cY 0, 22, .inl (fun _ => 0)))] := hD1
  have hS := hS1
  clear hP1 hD1 hS1
  refine lv_aload_n hx hb dX8_init_20 rfl (lv_at hl 0 rfl) ?_
  refine lv_bipush (v := 22) hx hb dX8_init_21 (by decide) ?_
  refine va_newa (D := (dC, dI)) (atype := .int) (ty := .int) (a0 := (22, .inl (fun _ => 0))) (N' := 22) hx hb (hts (.arrayClass .int) (List.mem_of_getElem? (i := 4) rfl)) rfl hK hP hD hS hA (fun _ => rfl) (by decide) (by decide +kernel) (Nat.le_of_ble_eq_true rfl) (Nat.le_of_ble_eq_true rfl) (Nat.le_of_ble_eq_true rfl) dX8_init_23 (fun q23_13 cA H hK1 hP1 hD1 hS1 => ?_)
  obtain rfl : cA = cY 0 := ra_i (hK1.2 5 (cA, .int) rfl).2 (hK1.2 0 (cY 0, .int) rfl).2
  clear hK1
  clear hP hD hS
  have hP : va_P (dC, dI) vwCl [(h0, .inr (8, [.ref q7_5, .int 0, .ref q15_9, .null, .null, .null, .null, .int 0, .int 0, .int 0, .int 0, .int 0, .int 0, .null, .null, .int 0, .int 0])), (q7_5, .inl (cY 0, 72, .inl (fun _ => 0))), (q15_9, .inl (cY 0, 22, .inl (fun _ => 0))), (q23_13, .inl (cY 0, 22, .inl (fun _ => 0)))] H := hP1
  have hD : va_D A [(h0, .inr (8, [.ref q7_5, .int 0, .ref q15_9, .null, .null, .null, .null, .int 0, .int 0, .int 0, .int 0, .int 0, .int 0, .null, .null, .int 0, .int 0])), (q7_5, .inl (cY 0, 72, .inl (fun _ => 0))), (q15_9, .inl (cY 0, 22, .inl (fun _ => 0))), (q23_13, .inl (cY 0, 22, .inl (fun _ => 0)))] := hD1
  have hS := hS1
  clear hP1 hD1 hS1
  refine W.widen (k := 3) (n := 116) (Nat.le_of_ble_eq_true rfl) (Nat.le_of_ble_eq_true rfl) ?_
  refine va_putF (D := (dC, dI)) (ci := 8) (v := .ref q23_13) (ty := (.array .int)) (C := RX8) (T := TX8) (N := 17) hx hb hts inw_X8_init_X8 tyX8 tyX8_ok nmX8 hown hK hP hD hS 0 rfl rfl 3 (by decide) (hts (.fieldLink RX8 16 "DuelFramesModel" "round" "[I") (List.mem_of_getElem? (i := 7) rfl)) (fun _ h9 => h9) rfl hin rfl (by decide +kernel) rfl rfl (Nat.le_of_ble_eq_true rfl) dX8_init_25 (fun H locs hP1 hD1 hS1 => ?_)
  clear hP hD hS
  have hP : va_P (dC, dI) vwCl [(h0, .inr (8, [.ref q7_5, .int 0, .ref q15_9, .ref q23_13, .null, .null, .null, .int 0, .int 0, .int 0, .int 0, .int 0, .int 0, .null, .null, .int 0, .int 0])), (q7_5, .inl (cY 0, 72, .inl (fun _ => 0))), (q15_9, .inl (cY 0, 22, .inl (fun _ => 0))), (q23_13, .inl (cY 0, 22, .inl (fun _ => 0)))] H := hP1
  have hD : va_D A [(h0, .inr (8, [.ref q7_5, .int 0, .ref q15_9, .ref q23_13, .null, .null, .null, .int 0, .int 0, .int 0, .int 0, .int 0, .int 0, .null, .null, .int 0, .int 0])), (q7_5, .inl (cY 0, 72, .inl (fun _ => 0))), (q15_9, .inl (cY 0, 22, .inl (fun _ => 0))), (q23_13, .inl (cY 0, 22, .inl (fun _ => 0)))] := hD1
  have hS := hS1
  clear hP1 hD1 hS1
  refine lv_aload_n hx hb dX8_init_28 rfl (lv_at hl 0 rfl) ?_
  refine lv_bipush (v := 110) hx hb dX8_init_29 (by decide) ?_
  refine va_newa (D := (dC, dI)) (atype := .int) (ty := .int) (a0 := (110, .inl (fun _ => 0))) (N' := 110) hx hb (hts (.arrayClass .int) (List.mem_of_getElem? (i := 4) rfl)) rfl hK hP hD hS hA (fun _ => rfl) (by decide) (by decide +kernel) (Nat.le_of_ble_eq_true rfl) (Nat.le_of_ble_eq_true rfl) (Nat.le_of_ble_eq_true rfl) dX8_init_31 (fun q31_17 cA H hK1 hP1 hD1 hS1 => ?_)
  obtain rfl : cA = cY 0 := ra_i (hK1.2 5 (cA, .int) rfl).2 (hK1.2 0 (cY 0, .int) rfl).2
  clear hK1
  clear hP hD hS
  have hP : va_P (dC, dI) vwCl [(h0, .inr (8, [.ref q7_5, .int 0, .ref q15_9, .ref q23_13, .null, .null, .null, .int 0, .int 0, .int 0, .int 0, .int 0, .int 0, .null, .null, .int 0, .int 0])), (q7_5, .inl (cY 0, 72, .inl (fun _ => 0))), (q15_9, .inl (cY 0, 22, .inl (fun _ => 0))), (q23_13, .inl (cY 0, 22, .inl (fun _ => 0))), (q31_17, .inl (cY 0, 110, .inl (fun _ => 0)))] H := hP1
  have hD : va_D A [(h0, .inr (8, [.ref q7_5, .int 0, .ref q15_9, .ref q23_13, .null, .null, .null, .int 0, .int 0, .int 0, .int 0, .int 0, .int 0, .null, .null, .int 0, .int 0])), (q7_5, .inl (cY 0, 72, .inl (fun _ => 0))), (q15_9, .inl (cY 0, 22, .inl (fun _ => 0))), (q23_13, .inl (cY 0, 22, .inl (fun _ => 0))), (q31_17, .inl (cY 0, 110, .inl (fun _ => 0)))] := hD1
  have hS := hS1
  clear hP1 hD1 hS1
  refine W.widen (k := 4) (n := 226) (Nat.le_of_ble_eq_true rfl) (Nat.le_of_ble_eq_true rfl) ?_
  refine va_putF (D := (dC, dI)) (ci := 8) (v := .ref q31_17) (ty := (.array .int)) (C := RX8) (T := TX8) (N := 17) hx hb hts inw_X8_init_X8 tyX8 tyX8_ok nmX8 hown hK hP hD hS 0 rfl rfl 4 (by decide) (hts (.fieldLink RX8 19 "DuelFramesModel" "kept" "[I") (List.mem_of_getElem? (i := 8) rfl)) (fun _ h9 => h9) rfl hin rfl (by decide +kernel) rfl rfl (Nat.le_of_ble_eq_true rfl) dX8_init_33 (fun H locs hP1 hD1 hS1 => ?_)
  clear hP hD hS
  have hP : va_P (dC, dI) vwCl [(h0, .inr (8, [.ref q7_5, .int 0, .ref q15_9, .ref q23_13, .ref q31_17, .null, .null, .int 0, .int 0, .int 0, .int 0, .int 0, .int 0, .null, .null, .int 0, .int 0])), (q7_5, .inl (cY 0, 72, .inl (fun _ => 0))), (q15_9, .inl (cY 0, 22, .inl (fun _ => 0))), (q23_13, .inl (cY 0, 22, .inl (fun _ => 0))), (q31_17, .inl (cY 0, 110, .inl (fun _ => 0)))] H := hP1
  have hD : va_D A [(h0, .inr (8, [.ref q7_5, .int 0, .ref q15_9, .ref q23_13, .ref q31_17, .null, .null, .int 0, .int 0, .int 0, .int 0, .int 0, .int 0, .null, .null, .int 0, .int 0])), (q7_5, .inl (cY 0, 72, .inl (fun _ => 0))), (q15_9, .inl (cY 0, 22, .inl (fun _ => 0))), (q23_13, .inl (cY 0, 22, .inl (fun _ => 0))), (q31_17, .inl (cY 0, 110, .inl (fun _ => 0)))] := hD1
  have hS := hS1
  clear hP1 hD1 hS1
  refine lv_aload_n hx hb dX8_init_36 rfl (lv_at hl 0 rfl) ?_
  refine lv_sipush (v := 8414) hx hb dX8_init_37 (by decide) ?_
  refine va_newa (D := (dC, dI)) (atype := .int) (ty := .int) (a0 := (8414, .inl (fun _ => 0))) (N' := 8414) hx hb (hts (.arrayClass .int) (List.mem_of_getElem? (i := 4) rfl)) rfl hK hP hD hS hA (fun _ => rfl) (by decide) (by decide +kernel) (Nat.le_of_ble_eq_true rfl) (Nat.le_of_ble_eq_true rfl) (Nat.le_of_ble_eq_true rfl) dX8_init_40 (fun q40_21 cA H hK1 hP1 hD1 hS1 => ?_)
  obtain rfl : cA = cY 0 := ra_i (hK1.2 5 (cA, .int) rfl).2 (hK1.2 0 (cY 0, .int) rfl).2
  clear hK1
  clear hP hD hS
  have hP : va_P (dC, dI) vwCl [(h0, .inr (8, [.ref q7_5, .int 0, .ref q15_9, .ref q23_13, .ref q31_17, .null, .null, .int 0, .int 0, .int 0, .int 0, .int 0, .int 0, .null, .null, .int 0, .int 0])), (q7_5, .inl (cY 0, 72, .inl (fun _ => 0))), (q15_9, .inl (cY 0, 22, .inl (fun _ => 0))), (q23_13, .inl (cY 0, 22, .inl (fun _ => 0))), (q31_17, .inl (cY 0, 110, .inl (fun _ => 0))), (q40_21, .inl (cY 0, 8414, .inl (fun _ => 0)))] H := hP1
  have hD : va_D A [(h0, .inr (8, [.ref q7_5, .int 0, .ref q15_9, .ref q23_13, .ref q31_17, .null, .null, .int 0, .int 0, .int 0, .int 0, .int 0, .int 0, .null, .null, .int 0, .int 0])), (q7_5, .inl (cY 0, 72, .inl (fun _ => 0))), (q15_9, .inl (cY 0, 22, .inl (fun _ => 0))), (q23_13, .inl (cY 0, 22, .inl (fun _ => 0))), (q31_17, .inl (cY 0, 110, .inl (fun _ => 0))), (q40_21, .inl (cY 0, 8414, .inl (fun _ => 0)))] := hD1
  have hS := hS1
  clear hP1 hD1 hS1
  refine W.widen (k := 5) (n := 8640) (Nat.le_of_ble_eq_true rfl) (Nat.le_of_ble_eq_true rfl) ?_
  refine va_putF (D := (dC, dI)) (ci := 8) (v := .ref q40_21) (ty := (.array .int)) (C := RX8) (T := TX8) (N := 17) hx hb hts inw_X8_init_X8 tyX8 tyX8_ok nmX8 hown hK hP hD hS 0 rfl rfl 5 (by decide) (hts (.fieldLink RX8 22 "DuelFramesModel" "told" "[I") (List.mem_of_getElem? (i := 9) rfl)) (fun _ h9 => h9) rfl hin rfl (by decide +kernel) rfl rfl (Nat.le_of_ble_eq_true rfl) dX8_init_42 (fun H locs hP1 hD1 hS1 => ?_)
  clear hP hD hS
  have hP : va_P (dC, dI) vwCl [(h0, .inr (8, [.ref q7_5, .int 0, .ref q15_9, .ref q23_13, .ref q31_17, .ref q40_21, .null, .int 0, .int 0, .int 0, .int 0, .int 0, .int 0, .null, .null, .int 0, .int 0])), (q7_5, .inl (cY 0, 72, .inl (fun _ => 0))), (q15_9, .inl (cY 0, 22, .inl (fun _ => 0))), (q23_13, .inl (cY 0, 22, .inl (fun _ => 0))), (q31_17, .inl (cY 0, 110, .inl (fun _ => 0))), (q40_21, .inl (cY 0, 8414, .inl (fun _ => 0)))] H := hP1
  have hD : va_D A [(h0, .inr (8, [.ref q7_5, .int 0, .ref q15_9, .ref q23_13, .ref q31_17, .ref q40_21, .null, .int 0, .int 0, .int 0, .int 0, .int 0, .int 0, .null, .null, .int 0, .int 0])), (q7_5, .inl (cY 0, 72, .inl (fun _ => 0))), (q15_9, .inl (cY 0, 22, .inl (fun _ => 0))), (q23_13, .inl (cY 0, 22, .inl (fun _ => 0))), (q31_17, .inl (cY 0, 110, .inl (fun _ => 0))), (q40_21, .inl (cY 0, 8414, .inl (fun _ => 0)))] := hD1
  have hS := hS1
  clear hP1 hD1 hS1
  refine lv_aload_n hx hb dX8_init_45 rfl (lv_at hl 0 rfl) ?_
  refine lv_iconst (v := 2) hx hb dX8_init_46 (by decide) ?_
  refine va_newa (D := (dC, dI)) (atype := .int) (ty := .int) (a0 := (2, .inl (fun _ => 0))) (N' := 2) hx hb (hts (.arrayClass .int) (List.mem_of_getElem? (i := 4) rfl)) rfl hK hP hD hS hA (fun _ => rfl) (by decide) (by decide +kernel) (Nat.le_of_ble_eq_true rfl) (Nat.le_of_ble_eq_true rfl) (Nat.le_of_ble_eq_true rfl) dX8_init_47 (fun q47_25 cA H hK1 hP1 hD1 hS1 => ?_)
  obtain rfl : cA = cY 0 := ra_i (hK1.2 5 (cA, .int) rfl).2 (hK1.2 0 (cY 0, .int) rfl).2
  clear hK1
  clear hP hD hS
  have hP : va_P (dC, dI) vwCl [(h0, .inr (8, [.ref q7_5, .int 0, .ref q15_9, .ref q23_13, .ref q31_17, .ref q40_21, .null, .int 0, .int 0, .int 0, .int 0, .int 0, .int 0, .null, .null, .int 0, .int 0])), (q7_5, .inl (cY 0, 72, .inl (fun _ => 0))), (q15_9, .inl (cY 0, 22, .inl (fun _ => 0))), (q23_13, .inl (cY 0, 22, .inl (fun _ => 0))), (q31_17, .inl (cY 0, 110, .inl (fun _ => 0))), (q40_21, .inl (cY 0, 8414, .inl (fun _ => 0))), (q47_25, .inl (cY 0, 2, .inl (fun _ => 0)))] H := hP1
  have hD : va_D A [(h0, .inr (8, [.ref q7_5, .int 0, .ref q15_9, .ref q23_13, .ref q31_17, .ref q40_21, .null, .int 0, .int 0, .int 0, .int 0, .int 0, .int 0, .null, .null, .int 0, .int 0])), (q7_5, .inl (cY 0, 72, .inl (fun _ => 0))), (q15_9, .inl (cY 0, 22, .inl (fun _ => 0))), (q23_13, .inl (cY 0, 22, .inl (fun _ => 0))), (q31_17, .inl (cY 0, 110, .inl (fun _ => 0))), (q40_21, .inl (cY 0, 8414, .inl (fun _ => 0))), (q47_25, .inl (cY 0, 2, .inl (fun _ => 0)))] := hD1
  have hS := hS1
  clear hP1 hD1 hS1
  refine W.widen (k := 6) (n := 8642) (Nat.le_of_ble_eq_true rfl) (Nat.le_of_ble_eq_true rfl) ?_
  refine va_putF (D := (dC, dI)) (ci := 8) (v := .ref q47_25) (ty := (.array .int)) (C := RX8) (T := TX8) (N := 17) hx hb hts inw_X8_init_X8 tyX8 tyX8_ok nmX8 hown hK hP hD hS 0 rfl rfl 6 (by decide) (hts (.fieldLink RX8 25 "DuelFramesModel" "won" "[I") (List.mem_of_getElem? (i := 10) rfl)) (fun _ h9 => h9) rfl hin rfl (by decide +kernel) rfl rfl (Nat.le_of_ble_eq_true rfl) dX8_init_49 (fun H locs hP1 hD1 hS1 => ?_)
  clear hP hD hS
  have hP : va_P (dC, dI) vwCl [(h0, .inr (8, [.ref q7_5, .int 0, .ref q15_9, .ref q23_13, .ref q31_17, .ref q40_21, .ref q47_25, .int 0, .int 0, .int 0, .int 0, .int 0, .int 0, .null, .null, .int 0, .int 0])), (q7_5, .inl (cY 0, 72, .inl (fun _ => 0))), (q15_9, .inl (cY 0, 22, .inl (fun _ => 0))), (q23_13, .inl (cY 0, 22, .inl (fun _ => 0))), (q31_17, .inl (cY 0, 110, .inl (fun _ => 0))), (q40_21, .inl (cY 0, 8414, .inl (fun _ => 0))), (q47_25, .inl (cY 0, 2, .inl (fun _ => 0)))] H := hP1
  have hD : va_D A [(h0, .inr (8, [.ref q7_5, .int 0, .ref q15_9, .ref q23_13, .ref q31_17, .ref q40_21, .ref q47_25, .int 0, .int 0, .int 0, .int 0, .int 0, .int 0, .null, .null, .int 0, .int 0])), (q7_5, .inl (cY 0, 72, .inl (fun _ => 0))), (q15_9, .inl (cY 0, 22, .inl (fun _ => 0))), (q23_13, .inl (cY 0, 22, .inl (fun _ => 0))), (q31_17, .inl (cY 0, 110, .inl (fun _ => 0))), (q40_21, .inl (cY 0, 8414, .inl (fun _ => 0))), (q47_25, .inl (cY 0, 2, .inl (fun _ => 0)))] := hD1
  have hS := hS1
  clear hP1 hD1 hS1
  refine lv_aload_n hx hb dX8_init_52 rfl (lv_at hl 0 rfl) ?_
  refine lv_iconst (v := (-1)) hx hb dX8_init_53 (by decide) ?_
  refine va_put (D := (dC, dI)) (ci := 8) (v := .int (-1)) (ty := .int) (C := RX8) (T := TX8) (N := 17) hx hb hts inw_X8_init_X8 tyX8 tyX8_ok nmX8 hown hK hP hD hS 0 rfl rfl 7 (by decide) (hts (.fieldLink RX8 28 "DuelFramesModel" "frames" "I") (List.mem_of_getElem? (i := 11) rfl)) (fun _ h9 => h9) rfl (by decide +kernel) rfl rfl (Nat.le_of_ble_eq_true rfl) dX8_init_54 (fun H locs hP1 hD1 hS1 => ?_)
  clear hP hD hS
  have hP : va_P (dC, dI) vwCl [(h0, .inr (8, [.ref q7_5, .int 0, .ref q15_9, .ref q23_13, .ref q31_17, .ref q40_21, .ref q47_25, .int (-1), .int 0, .int 0, .int 0, .int 0, .int 0, .null, .null, .int 0, .int 0])), (q7_5, .inl (cY 0, 72, .inl (fun _ => 0))), (q15_9, .inl (cY 0, 22, .inl (fun _ => 0))), (q23_13, .inl (cY 0, 22, .inl (fun _ => 0))), (q31_17, .inl (cY 0, 110, .inl (fun _ => 0))), (q40_21, .inl (cY 0, 8414, .inl (fun _ => 0))), (q47_25, .inl (cY 0, 2, .inl (fun _ => 0)))] H := hP1
  have hD : va_D A [(h0, .inr (8, [.ref q7_5, .int 0, .ref q15_9, .ref q23_13, .ref q31_17, .ref q40_21, .ref q47_25, .int (-1), .int 0, .int 0, .int 0, .int 0, .int 0, .null, .null, .int 0, .int 0])), (q7_5, .inl (cY 0, 72, .inl (fun _ => 0))), (q15_9, .inl (cY 0, 22, .inl (fun _ => 0))), (q23_13, .inl (cY 0, 22, .inl (fun _ => 0))), (q31_17, .inl (cY 0, 110, .inl (fun _ => 0))), (q40_21, .inl (cY 0, 8414, .inl (fun _ => 0))), (q47_25, .inl (cY 0, 2, .inl (fun _ => 0)))] := hD1
  have hS := hS1
  clear hP1 hD1 hS1
  refine lv_aload_n hx hb dX8_init_57 rfl (lv_at hl 0 rfl) ?_
  refine lv_iconst (v := (-1)) hx hb dX8_init_58 (by decide) ?_
  refine va_put (D := (dC, dI)) (ci := 8) (v := .int (-1)) (ty := .int) (C := RX8) (T := TX8) (N := 17) hx hb hts inw_X8_init_X8 tyX8 tyX8_ok nmX8 hown hK hP hD hS 0 rfl rfl 10 (by decide) (hts (.fieldLink RX8 32 "DuelFramesModel" "winner" "I") (List.mem_of_getElem? (i := 12) rfl)) (fun _ h9 => h9) rfl (by decide +kernel) rfl rfl (Nat.le_of_ble_eq_true rfl) dX8_init_59 (fun H locs hP1 hD1 hS1 => ?_)
  clear hP hD hS
  have hP : va_P (dC, dI) vwCl [(h0, .inr (8, [.ref q7_5, .int 0, .ref q15_9, .ref q23_13, .ref q31_17, .ref q40_21, .ref q47_25, .int (-1), .int 0, .int 0, .int (-1), .int 0, .int 0, .null, .null, .int 0, .int 0])), (q7_5, .inl (cY 0, 72, .inl (fun _ => 0))), (q15_9, .inl (cY 0, 22, .inl (fun _ => 0))), (q23_13, .inl (cY 0, 22, .inl (fun _ => 0))), (q31_17, .inl (cY 0, 110, .inl (fun _ => 0))), (q40_21, .inl (cY 0, 8414, .inl (fun _ => 0))), (q47_25, .inl (cY 0, 2, .inl (fun _ => 0)))] H := hP1
  have hD : va_D A [(h0, .inr (8, [.ref q7_5, .int 0, .ref q15_9, .ref q23_13, .ref q31_17, .ref q40_21, .ref q47_25, .int (-1), .int 0, .int 0, .int (-1), .int 0, .int 0, .null, .null, .int 0, .int 0])), (q7_5, .inl (cY 0, 72, .inl (fun _ => 0))), (q15_9, .inl (cY 0, 22, .inl (fun _ => 0))), (q23_13, .inl (cY 0, 22, .inl (fun _ => 0))), (q31_17, .inl (cY 0, 110, .inl (fun _ => 0))), (q40_21, .inl (cY 0, 8414, .inl (fun _ => 0))), (q47_25, .inl (cY 0, 2, .inl (fun _ => 0)))] := hD1
  have hS := hS1
  clear hP1 hD1 hS1
  refine lv_aload_n hx hb dX8_init_62 rfl (lv_at hl 0 rfl) ?_
  refine lv_iconst (v := 4) hx hb dX8_init_63 (by decide) ?_
  refine va_newa (D := (dC, dI)) (atype := .int) (ty := .int) (a0 := (4, .inl (fun _ => 0))) (N' := 4) hx hb (hts (.arrayClass .int) (List.mem_of_getElem? (i := 4) rfl)) rfl hK hP hD hS hA (fun _ => rfl) (by decide) (by decide +kernel) (Nat.le_of_ble_eq_true rfl) (Nat.le_of_ble_eq_true rfl) (Nat.le_of_ble_eq_true rfl) dX8_init_64 (fun q64_35 cA H hK1 hP1 hD1 hS1 => ?_)
  obtain rfl : cA = cY 0 := ra_i (hK1.2 5 (cA, .int) rfl).2 (hK1.2 0 (cY 0, .int) rfl).2
  clear hK1
  clear hP hD hS
  have hP : va_P (dC, dI) vwCl [(h0, .inr (8, [.ref q7_5, .int 0, .ref q15_9, .ref q23_13, .ref q31_17, .ref q40_21, .ref q47_25, .int (-1), .int 0, .int 0, .int (-1), .int 0, .int 0, .null, .null, .int 0, .int 0])), (q7_5, .inl (cY 0, 72, .inl (fun _ => 0))), (q15_9, .inl (cY 0, 22, .inl (fun _ => 0))), (q23_13, .inl (cY 0, 22, .inl (fun _ => 0))), (q31_17, .inl (cY 0, 110, .inl (fun _ => 0))), (q40_21, .inl (cY 0, 8414, .inl (fun _ => 0))), (q47_25, .inl (cY 0, 2, .inl (fun _ => 0))), (q64_35, .inl (cY 0, 4, .inl (fun _ => 0)))] H := hP1
  have hD : va_D A [(h0, .inr (8, [.ref q7_5, .int 0, .ref q15_9, .ref q23_13, .ref q31_17, .ref q40_21, .ref q47_25, .int (-1), .int 0, .int 0, .int (-1), .int 0, .int 0, .null, .null, .int 0, .int 0])), (q7_5, .inl (cY 0, 72, .inl (fun _ => 0))), (q15_9, .inl (cY 0, 22, .inl (fun _ => 0))), (q23_13, .inl (cY 0, 22, .inl (fun _ => 0))), (q31_17, .inl (cY 0, 110, .inl (fun _ => 0))), (q40_21, .inl (cY 0, 8414, .inl (fun _ => 0))), (q47_25, .inl (cY 0, 2, .inl (fun _ => 0))), (q64_35, .inl (cY 0, 4, .inl (fun _ => 0)))] := hD1
  have hS := hS1
  clear hP1 hD1 hS1
  refine W.widen (k := 7) (n := 8646) (Nat.le_of_ble_eq_true rfl) (Nat.le_of_ble_eq_true rfl) ?_
  refine va_putF (D := (dC, dI)) (ci := 8) (v := .ref q64_35) (ty := (.array .int)) (C := RX8) (T := TX8) (N := 17) hx hb hts inw_X8_init_X8 tyX8 tyX8_ok nmX8 hown hK hP hD hS 0 rfl rfl 13 (by decide) (hts (.fieldLink RX8 35 "DuelFramesModel" "row" "[I") (List.mem_of_getElem? (i := 13) rfl)) (fun _ h9 => h9) rfl hin rfl (by decide +kernel) rfl rfl (Nat.le_of_ble_eq_true rfl) dX8_init_66 (fun H locs hP1 hD1 hS1 => ?_)
  clear hP hD hS
  have hP : va_P (dC, dI) vwCl [(h0, .inr (8, [.ref q7_5, .int 0, .ref q15_9, .ref q23_13, .ref q31_17, .ref q40_21, .ref q47_25, .int (-1), .int 0, .int 0, .int (-1), .int 0, .int 0, .ref q64_35, .null, .int 0, .int 0])), (q7_5, .inl (cY 0, 72, .inl (fun _ => 0))), (q15_9, .inl (cY 0, 22, .inl (fun _ => 0))), (q23_13, .inl (cY 0, 22, .inl (fun _ => 0))), (q31_17, .inl (cY 0, 110, .inl (fun _ => 0))), (q40_21, .inl (cY 0, 8414, .inl (fun _ => 0))), (q47_25, .inl (cY 0, 2, .inl (fun _ => 0))), (q64_35, .inl (cY 0, 4, .inl (fun _ => 0)))] H := hP1
  have hD : va_D A [(h0, .inr (8, [.ref q7_5, .int 0, .ref q15_9, .ref q23_13, .ref q31_17, .ref q40_21, .ref q47_25, .int (-1), .int 0, .int 0, .int (-1), .int 0, .int 0, .ref q64_35, .null, .int 0, .int 0])), (q7_5, .inl (cY 0, 72, .inl (fun _ => 0))), (q15_9, .inl (cY 0, 22, .inl (fun _ => 0))), (q23_13, .inl (cY 0, 22, .inl (fun _ => 0))), (q31_17, .inl (cY 0, 110, .inl (fun _ => 0))), (q40_21, .inl (cY 0, 8414, .inl (fun _ => 0))), (q47_25, .inl (cY 0, 2, .inl (fun _ => 0))), (q64_35, .inl (cY 0, 4, .inl (fun _ => 0)))] := hD1
  have hS := hS1
  clear hP1 hD1 hS1
  refine lv_aload_n hx hb dX8_init_69 rfl (lv_at hl 0 rfl) ?_
  refine lv_iconst (v := 4) hx hb dX8_init_70 (by decide) ?_
  refine va_newa (D := (dC, dI)) (atype := .int) (ty := .int) (a0 := (4, .inl (fun _ => 0))) (N' := 4) hx hb (hts (.arrayClass .int) (List.mem_of_getElem? (i := 4) rfl)) rfl hK hP hD hS hA (fun _ => rfl) (by decide) (by decide +kernel) (Nat.le_of_ble_eq_true rfl) (Nat.le_of_ble_eq_true rfl) (Nat.le_of_ble_eq_true rfl) dX8_init_71 (fun q71_39 cA H hK1 hP1 hD1 hS1 => ?_)
  obtain rfl : cA = cY 0 := ra_i (hK1.2 5 (cA, .int) rfl).2 (hK1.2 0 (cY 0, .int) rfl).2
  clear hK1
  clear hP hD hS
  have hP : va_P (dC, dI) vwCl [(h0, .inr (8, [.ref q7_5, .int 0, .ref q15_9, .ref q23_13, .ref q31_17, .ref q40_21, .ref q47_25, .int (-1), .int 0, .int 0, .int (-1), .int 0, .int 0, .ref q64_35, .null, .int 0, .int 0])), (q7_5, .inl (cY 0, 72, .inl (fun _ => 0))), (q15_9, .inl (cY 0, 22, .inl (fun _ => 0))), (q23_13, .inl (cY 0, 22, .inl (fun _ => 0))), (q31_17, .inl (cY 0, 110, .inl (fun _ => 0))), (q40_21, .inl (cY 0, 8414, .inl (fun _ => 0))), (q47_25, .inl (cY 0, 2, .inl (fun _ => 0))), (q64_35, .inl (cY 0, 4, .inl (fun _ => 0))), (q71_39, .inl (cY 0, 4, .inl (fun _ => 0)))] H := hP1
  have hD : va_D A [(h0, .inr (8, [.ref q7_5, .int 0, .ref q15_9, .ref q23_13, .ref q31_17, .ref q40_21, .ref q47_25, .int (-1), .int 0, .int 0, .int (-1), .int 0, .int 0, .ref q64_35, .null, .int 0, .int 0])), (q7_5, .inl (cY 0, 72, .inl (fun _ => 0))), (q15_9, .inl (cY 0, 22, .inl (fun _ => 0))), (q23_13, .inl (cY 0, 22, .inl (fun _ => 0))), (q31_17, .inl (cY 0, 110, .inl (fun _ => 0))), (q40_21, .inl (cY 0, 8414, .inl (fun _ => 0))), (q47_25, .inl (cY 0, 2, .inl (fun _ => 0))), (q64_35, .inl (cY 0, 4, .inl (fun _ => 0))), (q71_39, .inl (cY 0, 4, .inl (fun _ => 0)))] := hD1
  have hS := hS1
  clear hP1 hD1 hS1
  refine W.widen (k := 8) (n := 8650) (Nat.le_of_ble_eq_true rfl) (Nat.le_of_ble_eq_true rfl) ?_
  refine va_putF (D := (dC, dI)) (ci := 8) (v := .ref q71_39) (ty := (.array .int)) (C := RX8) (T := TX8) (N := 17) hx hb hts inw_X8_init_X8 tyX8 tyX8_ok nmX8 hown hK hP hD hS 0 rfl rfl 14 (by decide) (hts (.fieldLink RX8 38 "DuelFramesModel" "bestRow" "[I") (List.mem_of_getElem? (i := 14) rfl)) (fun _ h9 => h9) rfl hin rfl (by decide +kernel) rfl rfl (Nat.le_of_ble_eq_true rfl) dX8_init_73 (fun H locs hP1 hD1 hS1 => ?_)
  clear hP hD hS
  have hP : va_P (dC, dI) vwCl [(h0, .inr (8, [.ref q7_5, .int 0, .ref q15_9, .ref q23_13, .ref q31_17, .ref q40_21, .ref q47_25, .int (-1), .int 0, .int 0, .int (-1), .int 0, .int 0, .ref q64_35, .ref q71_39, .int 0, .int 0])), (q7_5, .inl (cY 0, 72, .inl (fun _ => 0))), (q15_9, .inl (cY 0, 22, .inl (fun _ => 0))), (q23_13, .inl (cY 0, 22, .inl (fun _ => 0))), (q31_17, .inl (cY 0, 110, .inl (fun _ => 0))), (q40_21, .inl (cY 0, 8414, .inl (fun _ => 0))), (q47_25, .inl (cY 0, 2, .inl (fun _ => 0))), (q64_35, .inl (cY 0, 4, .inl (fun _ => 0))), (q71_39, .inl (cY 0, 4, .inl (fun _ => 0)))] H := hP1
  have hD : va_D A [(h0, .inr (8, [.ref q7_5, .int 0, .ref q15_9, .ref q23_13, .ref q31_17, .ref q40_21, .ref q47_25, .int (-1), .int 0, .int 0, .int (-1), .int 0, .int 0, .ref q64_35, .ref q71_39, .int 0, .int 0])), (q7_5, .inl (cY 0, 72, .inl (fun _ => 0))), (q15_9, .inl (cY 0, 22, .inl (fun _ => 0))), (q23_13, .inl (cY 0, 22, .inl (fun _ => 0))), (q31_17, .inl (cY 0, 110, .inl (fun _ => 0))), (q40_21, .inl (cY 0, 8414, .inl (fun _ => 0))), (q47_25, .inl (cY 0, 2, .inl (fun _ => 0))), (q64_35, .inl (cY 0, 4, .inl (fun _ => 0))), (q71_39, .inl (cY 0, 4, .inl (fun _ => 0)))] := hD1
  have hS := hS1
  clear hP1 hD1 hS1
  refine lv_aload_n hx hb dX8_init_76 rfl (lv_at hl 0 rfl) ?_
  refine va_get (D := (dC, dI)) (ci := 8) (v := .ref q23_13) (C := RX8) (T := TX8) (N := 17) hx hb hts inw_X8_init_X8 hown hK hP 0 rfl rfl 3 (by decide) (hts (.fieldLink RX8 16 "DuelFramesModel" "round" "[I") (List.mem_of_getElem? (i := 7) rfl)) (fun _ h9 => h9) rfl dX8_init_77 ?_
  refine lv_iconst (v := 4) hx hb dX8_init_80 (by decide) ?_
  refine lv_iconst (v := (-1)) hx hb dX8_init_81 (by decide) ?_
  refine va_iast hx hb hK hP hD hS 3 0 rfl rfl (vin rfl) dX8_init_82 (fun H locs hP1 hD1 hS1 => ?_)
  clear hP hD hS
  have hP : va_P (dC, dI) vwCl [(h0, .inr (8, [.ref q7_5, .int 0, .ref q15_9, .ref q23_13, .ref q31_17, .ref q40_21, .ref q47_25, .int (-1), .int 0, .int 0, .int (-1), .int 0, .int 0, .ref q64_35, .ref q71_39, .int 0, .int 0])), (q7_5, .inl (cY 0, 72, .inl (fun _ => 0))), (q15_9, .inl (cY 0, 22, .inl (fun _ => 0))), (q23_13, .inl (cY 0, 22, .inl (upd (fun _ => 0) 4 (-1)))), (q31_17, .inl (cY 0, 110, .inl (fun _ => 0))), (q40_21, .inl (cY 0, 8414, .inl (fun _ => 0))), (q47_25, .inl (cY 0, 2, .inl (fun _ => 0))), (q64_35, .inl (cY 0, 4, .inl (fun _ => 0))), (q71_39, .inl (cY 0, 4, .inl (fun _ => 0)))] H := hP1
  have hD : va_D A [(h0, .inr (8, [.ref q7_5, .int 0, .ref q15_9, .ref q23_13, .ref q31_17, .ref q40_21, .ref q47_25, .int (-1), .int 0, .int 0, .int (-1), .int 0, .int 0, .ref q64_35, .ref q71_39, .int 0, .int 0])), (q7_5, .inl (cY 0, 72, .inl (fun _ => 0))), (q15_9, .inl (cY 0, 22, .inl (fun _ => 0))), (q23_13, .inl (cY 0, 22, .inl (upd (fun _ => 0) 4 (-1)))), (q31_17, .inl (cY 0, 110, .inl (fun _ => 0))), (q40_21, .inl (cY 0, 8414, .inl (fun _ => 0))), (q47_25, .inl (cY 0, 2, .inl (fun _ => 0))), (q64_35, .inl (cY 0, 4, .inl (fun _ => 0))), (q71_39, .inl (cY 0, 4, .inl (fun _ => 0)))] := hD1
  have hS := hS1
  clear hP1 hD1 hS1
  refine lv_aload_n hx hb dX8_init_83 rfl (lv_at hl 0 rfl) ?_
  refine va_get (D := (dC, dI)) (ci := 8) (v := .ref q23_13) (C := RX8) (T := TX8) (N := 17) hx hb hts inw_X8_init_X8 hown hK hP 0 rfl rfl 3 (by decide) (hts (.fieldLink RX8 16 "DuelFramesModel" "round" "[I") (List.mem_of_getElem? (i := 7) rfl)) (fun _ h9 => h9) rfl dX8_init_84 ?_
  refine lv_bipush (v := 15) hx hb dX8_init_87 (by decide) ?_
  refine lv_iconst (v := (-1)) hx hb dX8_init_89 (by decide) ?_
  refine va_iast hx hb hK hP hD hS 3 0 rfl rfl (vin rfl) dX8_init_90 (fun H locs hP1 hD1 hS1 => ?_)
  clear hP hD hS
  have hP : va_P (dC, dI) vwCl [(h0, .inr (8, [.ref q7_5, .int 0, .ref q15_9, .ref q23_13, .ref q31_17, .ref q40_21, .ref q47_25, .int (-1), .int 0, .int 0, .int (-1), .int 0, .int 0, .ref q64_35, .ref q71_39, .int 0, .int 0])), (q7_5, .inl (cY 0, 72, .inl (fun _ => 0))), (q15_9, .inl (cY 0, 22, .inl (fun _ => 0))), (q23_13, .inl (cY 0, 22, .inl (upd (upd (fun _ => 0) 4 (-1)) 15 (-1)))), (q31_17, .inl (cY 0, 110, .inl (fun _ => 0))), (q40_21, .inl (cY 0, 8414, .inl (fun _ => 0))), (q47_25, .inl (cY 0, 2, .inl (fun _ => 0))), (q64_35, .inl (cY 0, 4, .inl (fun _ => 0))), (q71_39, .inl (cY 0, 4, .inl (fun _ => 0)))] H := hP1
  have hD : va_D A [(h0, .inr (8, [.ref q7_5, .int 0, .ref q15_9, .ref q23_13, .ref q31_17, .ref q40_21, .ref q47_25, .int (-1), .int 0, .int 0, .int (-1), .int 0, .int 0, .ref q64_35, .ref q71_39, .int 0, .int 0])), (q7_5, .inl (cY 0, 72, .inl (fun _ => 0))), (q15_9, .inl (cY 0, 22, .inl (fun _ => 0))), (q23_13, .inl (cY 0, 22, .inl (upd (upd (fun _ => 0) 4 (-1)) 15 (-1)))), (q31_17, .inl (cY 0, 110, .inl (fun _ => 0))), (q40_21, .inl (cY 0, 8414, .inl (fun _ => 0))), (q47_25, .inl (cY 0, 2, .inl (fun _ => 0))), (q64_35, .inl (cY 0, 4, .inl (fun _ => 0))), (q71_39, .inl (cY 0, 4, .inl (fun _ => 0)))] := hD1
  have hS := hS1
  clear hP1 hD1 hS1
  have hP9 := hP.sub (ws' := [(h0, .inr (8, [.ref q7_5, .int 0, .ref q15_9, .ref q23_13, .ref q31_17, .ref q40_21, .ref q47_25, .int (-1), .int 0, .int 0, .int (-1), .int 0, .int 0, .ref q64_35, .ref q71_39, .int 0, .int 0])), (q7_5, .inl (cY 0, 72, .inl (fun _ => 0))), (q15_9, .inl (cY 0, 22, .inl (fun _ => 0))), (q23_13, .inl (cY 0, 22, .inl (upd (upd (fun _ => 0) 4 (-1)) 15 (-1)))), (q31_17, .inl (cY 0, 110, .inl (fun _ => 0))), (q40_21, .inl (cY 0, 8414, .inl (fun _ => 0))), (q47_25, .inl (cY 0, 2, .inl (fun _ => 0))), (q64_35, .inl (cY 0, 4, .inl (fun _ => 0))), (q71_39, .inl (cY 0, 4, .inl (fun _ => 0)))]) [0, 1, 2, 3, 4, 5, 6, 7, 8] rfl
  have hD9 := hD.sub (ws' := [(h0, .inr (8, [.ref q7_5, .int 0, .ref q15_9, .ref q23_13, .ref q31_17, .ref q40_21, .ref q47_25, .int (-1), .int 0, .int 0, .int (-1), .int 0, .int 0, .ref q64_35, .ref q71_39, .int 0, .int 0])), (q7_5, .inl (cY 0, 72, .inl (fun _ => 0))), (q15_9, .inl (cY 0, 22, .inl (fun _ => 0))), (q23_13, .inl (cY 0, 22, .inl (upd (upd (fun _ => 0) 4 (-1)) 15 (-1)))), (q31_17, .inl (cY 0, 110, .inl (fun _ => 0))), (q40_21, .inl (cY 0, 8414, .inl (fun _ => 0))), (q47_25, .inl (cY 0, 2, .inl (fun _ => 0))), (q64_35, .inl (cY 0, 4, .inl (fun _ => 0))), (q71_39, .inl (cY 0, 4, .inl (fun _ => 0)))]) [0, 1, 2, 3, 4, 5, 6, 7, 8] (by decide +kernel) rfl
  refine W.widen (k := 8) (n := 8650) (Nat.le_of_ble_eq_true rfl) (Nat.le_of_ble_eq_true rfl) ?_
  exact W.vret hx hb hr (fun t ht hW => ⟨⟨(fun k => [q7_5, 0, q15_9, q23_13, q31_17, q40_21, q47_25, 0, 0, 0, 0, 0, 0, q64_35, q71_39, 0, 0].getD k 0), rfl, trivial, wPost_of hP9 hD9 ht⟩, hS.F ht⟩) hS.2.2 dX8_init_91
