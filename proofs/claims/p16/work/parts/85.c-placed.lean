/-! arePlaced -/
set_option maxHeartbeats 8000000 in
set_option maxRecDepth 100000 in
theorem c_L_arePlaced (l : Launch) (dC : Nat → ClassId) (dI : Nat → Nat → Nat) (cY : Nat → ClassId) (Q AD AE HQ : Nat → Nat) {n fr T : Nat} {u : zS} (h : rdZ n fr T u) (hst : l.stackTraces = false) (sz : Nat) : oM l yL_arePlaced wsL_arePlaced ({ frames := 8, cells := 4, slots := 24, locals := 200 } : Room) [.ref (Q 0)] dC dI cY Q AD AE HQ u (fun r v => r = 1 ∧ v = u) 4 24 sz := by
  refine Met.ofW (cc := cL_arePlaced) (maxL := 3) (ret := (some .boolean)) (by decide) rfl ?_
  intro p e s m args below meth c s₁ B hml hv
  obtain ⟨rfl, hsz, hP, hK, hN, hD0, xn, xt, xz⟩ := hv
  subst hsz
  have hx := B.exec
  have hb := B.bytes
  have hr := B.returns
  have hts := atoms_spec (ws := wsL_arePlaced) B.pre
  have hown : s.vm.findClass RL = some m.cls := findClass_of_methodNamed B.named
  have hlocks := B.notSynchronized
  have hD := hD0.self (sz := s.heap.size)
  generalize hAe : va_A (obW cY Q AD AE HQ u) s.heap.size = A at hD xz ⊢
  have hA : ∀ q : Nat, s.heap.size ≤ q → A q := fun q h => by rw [← hAe]; exact Or.inr h
  have hS : va_S A s.heap s.heap [] := va_S.rf
  have BF : bdF p s m c ([.ref (Q 0)]).toArray cL_arePlaced 3 wsL_arePlaced dC dI cY A := ⟨hx, hb, hml, hown, hts, hK, hN, xn, xt, xz, hA⟩
  have hl := lv_entry ([.ref (Q 0)]) (n := 3) (Nat.le_of_ble_eq_true rfl)
  rw [lg_entry_eq]
  generalize (lg_sl ([.ref (Q 0)]) ++ List.replicate (3 - (lg_sl ([.ref (Q 0)])).length) Slot.unset).toArray = ls at hl ⊢
  have hl : lv_has ls 3 [(0, .ref (Q 0))] := hl
  obtain ⟨p1, p2, p3, p4, p5⟩ := pl_facts h
  have hx0 : X7_of_x 0 0 = 0 := by decide
  have hx1 : X7_of_x 1 0 = 0 := by decide
  refine lv_aload_n hx hb dL_arePlaced_0 rfl (lv_at hl 0 rfl) ?_
  refine lv_iconst (v := 0) hx hb dL_arePlaced_1 (by decide) ?_
  refine lv_iconst (v := 0) hx hb dL_arePlaced_2 (by decide) ?_
  have hF1 := zF hD hS hA
  refine va_calli (va_runV (As := [.int 0, .int 0]) (rest := []) ⟨hx, hb, hml, hown, hts⟩ (o_of l dC dI cY Q AD AE HQ u 0 0 hst hx0 s.heap.size) (cwV 2 hts gL_arePlaced_X7_of rfl rfl rfl (by decide +kernel) ⟨Nat.le_of_ble_eq_true rfl, Nat.le_of_ble_eq_true rfl⟩) ⟨blindX, va_recv hK hP (ci := 7) (q0 := 0) rfl rfl, fun U hU hW => ⟨rfl, xPre_of hP hK hN hD xn xt xz hS hF1 U hU hW⟩⟩ rfl rfl hl.1 rfl (lv_room (Nat.le_of_ble_eq_true rfl)) dL_arePlaced_3 ⟨Nat.le_of_ble_eq_true rfl, Nat.le_of_ble_eq_true rfl⟩) hS (fun q _ h => hF1 q h) hF1 (fun r1 w1 t1 H1 locs1 ht1 hvm hq1 hB1 hz9 hk9 hS1 => ?_)
  clear hvm hz9 hk9
  obtain ⟨er1, ev1⟩ := hq1
  rw [ev1] at hB1
  subst er1
  obtain ⟨hP1, hD1⟩ := hB1
  rw [ht1] at hP1
  replace hD1 := hD1.weaken (fun _ q _ h => hF1 q.1 h)
  clear hF1 ht1 hP hD hS
  refine lv_istore_n (lv' := [(1, .int (ofZ u 0 0)), (0, .ref (Q 0))]) hx hb dL_arePlaced_6 rfl hl (by decide) rfl (fun ls hl => ?_)
  refine lv_aload_n hx hb dL_arePlaced_7 rfl (lv_at hl 1 rfl) ?_
  refine lv_iconst (v := 1) hx hb dL_arePlaced_8 (by decide) ?_
  refine lv_iconst (v := 0) hx hb dL_arePlaced_9 (by decide) ?_
  have hF2 := zF hD1 hS1 hA
  refine va_calli (va_runV (As := [.int 1, .int 0]) (rest := []) ⟨hx, hb, hml, hown, hts⟩ (o_of l dC dI cY Q AD AE HQ u 1 0 hst hx1 H1.size) (cwV 2 hts gL_arePlaced_X7_of rfl rfl rfl (by decide +kernel) ⟨Nat.le_of_ble_eq_true rfl, Nat.le_of_ble_eq_true rfl⟩) ⟨blindX, va_recv hK hP1 (ci := 7) (q0 := 0) rfl rfl, fun U hU hW => ⟨rfl, xPre_of hP1 hK hN hD1 xn xt xz hS1 hF2 U hU hW⟩⟩ rfl rfl hl.1 rfl (lv_room (Nat.le_of_ble_eq_true rfl)) dL_arePlaced_10 ⟨Nat.le_of_ble_eq_true rfl, Nat.le_of_ble_eq_true rfl⟩) hS1 (fun q _ h => hF2 q h) hF2 (fun r2 w2 t2 H2 locs2 ht2 hvm hq2 hB2 hz9 hk9 hS2 => ?_)
  clear hvm hz9 hk9
  obtain ⟨er2, ev2⟩ := hq2
  rw [ev2] at hB2
  subst er2
  obtain ⟨hP2, hD2⟩ := hB2
  rw [ht2] at hP2
  replace hD2 := hD2.weaken (fun _ q _ h => hF2 q.1 h)
  clear hF2 ht2 hP1 hD1 hS1
  refine lv_istore_n (lv' := [(2, .int (ofZ u 1 0)), (1, .int (ofZ u 0 0)), (0, .ref (Q 0))]) hx hb dL_arePlaced_13 rfl hl (by decide) rfl (fun ls hl => ?_)
  refine lv_iload_n hx hb dL_arePlaced_14 rfl (lv_at hl 1 rfl) ?_
  refine lv_if_lt (tgt := 50) hx hb dL_arePlaced_15 (by decide) (fun c9 => absurd c9 (Int32.not_lt.mpr p1)) (fun _ => ?_)
  refine lv_iload_n hx hb dL_arePlaced_18 rfl (lv_at hl 0 rfl) ?_
  refine lv_sipush (v := 600) hx hb dL_arePlaced_19 (by decide) ?_
  refine lv_icmp_gt (tgt := 50) hx hb dL_arePlaced_22 (by decide) (fun c9 => absurd c9 (Int32.not_lt.mpr p2)) (fun _ => ?_)
  refine lv_iload_n hx hb dL_arePlaced_25 rfl (lv_at hl 0 rfl) ?_
  refine lv_iload_n hx hb dL_arePlaced_26 rfl (lv_at hl 1 rfl) ?_
  refine lv_isub hx hb dL_arePlaced_27 ?_
  refine lv_bipush (v := 20) hx hb dL_arePlaced_28 (by decide) ?_
  refine lv_icmp_lt (tgt := 50) hx hb dL_arePlaced_30 (by decide) (fun c9 => absurd c9 (Int32.not_lt.mpr p3)) (fun _ => ?_)
  refine lv_iload_n hx hb dL_arePlaced_33 rfl (lv_at hl 1 rfl) ?_
  refine lv_sipush (v := 580) hx hb dL_arePlaced_34 (by decide) ?_
  refine lv_icmp_gt (tgt := 50) hx hb dL_arePlaced_37 (by decide) (fun c9 => absurd c9 (Int32.not_lt.mpr p4)) (fun _ => ?_)
  refine lv_iload_n hx hb dL_arePlaced_40 rfl (lv_at hl 0 rfl) ?_
  refine lv_bipush (v := 20) hx hb dL_arePlaced_41 (by decide) ?_
  refine lv_icmp_lt (tgt := 50) hx hb dL_arePlaced_43 (by decide) (fun c9 => absurd c9 (Int32.not_lt.mpr p5)) (fun _ => ?_)
  refine lv_iconst (v := 1) hx hb dL_arePlaced_46 (by decide) ?_
  refine lv_goto (tgt := 51) hx hb dL_arePlaced_47 (by decide) ?_
  exact W.zret (v := 1) (ty := .boolean) hx hb hr rfl (fun t ht _ => ⟨⟨_, u, rfl, ⟨rfl, rfl⟩, wPost_of hP2 hD2 ht⟩, hS2.F ht⟩) hS2.2.2 dL_arePlaced_51
