/-! the law, a piece of its walk -/
set_option maxHeartbeats 8000000 in
set_option maxRecDepth 100000 in
theorem law_A {p : Program} {l : Launch} {e : Env} {s : State} {m : MethodId} {args : Array Value} {below : List Frame} {meth : Method} {c : Code} {Qz : State → Prop} {dC : Nat → ClassId} {dI : Nat → Nat → Nat} {cY : Nat → ClassId} {Q AD AE HQ : Nat → Nat} {A : Nat → Prop} {H : Heap} {locs : List Loc} {ls : Array Slot} {n fr T ea i C S9 : Nat} {pl : Int32} {u : zS} {b L : Nat} {xs : Nat → Int32} (hL : L ≤ 260) (hX : va_X b L xs s s.heap) (hbl : b < s.heap.size) (hbA : ¬ A b) (hst : l.stackTraces = false) (B : bdF p s m c args cL_law 12 wsL_law dC dI cY A) (h : rdZ n fr T u) (hT : T ≤ 1000) (hea : ea ≤ fr) (hpl : pl = tellZ u ea 0 (nI 0)) (hC : C + 106 ≤ 600000) (hS9 : S9 + 636 ≤ 7301000) (hP : va_P (dC, dI) vwCl (obW cY Q AD AE HQ u) H) (hD : va_D A (obW cY Q AD AE HQ u)) (hS : va_S A s.heap H locs) (hl : lv_has ls 12 [(7, .int (nI i)), (3, .int 1), (4, .int (nI fr)), (5, .int (nI ea)), (6, .int pl), (0, .ref b), (1, .ref (Q 0)), (2, .int (nI n))]) (kk : ∀ {v : zS}, rdZ n fr T v → simZ u v → ∀ {H : Heap} {locs : List Loc} {ls : Array Slot}, va_P (dC, dI) vwCl (obW cY Q AD AE HQ v) H → va_D A (obW cY Q AD AE HQ v) → va_S A s.heap H locs → lv_has ls 12 [(7, .int (nI (i + 1))), (3, .int 1), (4, .int (nI fr)), (5, .int (nI ea)), (6, .int pl), (0, .ref b), (1, .ref (Q 0)), (2, .int (nI n))] → W p l e room_1 s m args below meth c H locs (C + 106) (S9 + 636) Qz (F0 m 69 ls [])) : W p l e room_1 s m args below meth c H locs C S9 Qz (F0 m 298 ls []) := by
  obtain ⟨hx, hb, hml, hown, hts, hK, hN, xn, xt, xz, hA⟩ := B
  refine lv_iload_n hx hb dL_law_298 rfl (lv_at hl 1 rfl) ?_
  refine lv_if_eq (tgt := 346) hx hb dL_law_299 (by decide) (fun c9 => absurd c9 (by decide)) (fun _ => ?_)
  refine lv_aload_n hx hb dL_law_302 rfl (lv_at hl 6 rfl) ?_
  refine lv_iconst (v := 0) hx hb dL_law_303 (by decide) ?_
  refine lv_iload hx hb dL_law_304 (lv_at hl 2 rfl) ?_
  have hF1 := zF hD hS hA
  refine va_calli (va_runS (As := [.ref (Q 0), .int 0, .int (nI fr)]) (rest := []) ⟨hx, hb, hml, hown, hts⟩ (c_L_isSo l dC dI cY Q AD AE HQ h hT (Or.inl rfl) hst H.size) (va_cwS 3 hts gL_law_L_isSo rfl rfl rfl (by decide +kernel) ⟨Nat.le_of_ble_eq_true rfl, Nat.le_of_ble_eq_true rfl⟩) ⟨blindX, fun U hU hW => ⟨rfl, xPre_of hP hK hN hD xn xt xz hS hF1 U hU hW⟩⟩ rfl rfl hl.1 rfl (lv_room (Nat.le_of_ble_eq_true rfl)) dL_law_306 ⟨by show C + 0 + 48 ≤ 600074; omega, by show S9 + 0 + 288 ≤ 7301550; omega⟩) hS (fun q _ h => hF1 q h) hF1 (fun r1 w1 t1 H1 locs1 ht1 hvm hq1 hB1 hz9 hk9 hS1 => ?_)
  clear hvm hz9 hk9
  obtain ⟨er1, hr1, sm1⟩ := hq1
  subst er1
  obtain ⟨hP1, hD1⟩ := hB1
  rw [ht1] at hP1
  replace hD1 := hD1.weaken (fun _ q _ h => hF1 q.1 h)
  clear hF1 ht1 hP hD hS
  refine lv_if_eq (tgt := 346) hx hb dL_law_309 (by decide) (fun c9 => absurd c9 (by decide)) (fun _ => ?_)
  refine lv_aload_n hx hb dL_law_312 rfl (lv_at hl 6 rfl) ?_
  refine lv_iconst (v := 1) hx hb dL_law_313 (by decide) ?_
  refine lv_iload hx hb dL_law_314 (lv_at hl 2 rfl) ?_
  have hF2 := zF hD1 hS1 hA
  refine va_calli (va_runS (As := [.ref (Q 0), .int 1, .int (nI fr)]) (rest := []) ⟨hx, hb, hml, hown, hts⟩ (c_L_isSo l dC dI cY Q AD AE HQ hr1 hT (Or.inr rfl) hst H1.size) (va_cwS 3 hts gL_law_L_isSo rfl rfl rfl (by decide +kernel) ⟨Nat.le_of_ble_eq_true rfl, Nat.le_of_ble_eq_true rfl⟩) ⟨blindX, fun U hU hW => ⟨rfl, xPre_of hP1 hK hN hD1 xn xt xz hS1 hF2 U hU hW⟩⟩ rfl rfl hl.1 rfl (lv_room (Nat.le_of_ble_eq_true rfl)) dL_law_316 ⟨by show C + 48 + 48 ≤ 600074; omega, by show S9 + 288 + 288 ≤ 7301550; omega⟩) hS1 (fun q _ h => hF2 q h) hF2 (fun r2 w2 t2 H2 locs2 ht2 hvm hq2 hB2 hz9 hk9 hS2 => ?_)
  clear hvm hz9 hk9
  obtain ⟨er2, hr2, sm2⟩ := hq2
  subst er2
  obtain ⟨hP2, hD2⟩ := hB2
  rw [ht2] at hP2
  replace hD2 := hD2.weaken (fun _ q _ h => hF2 q.1 h)
  clear hF2 ht2 hP1 hD1 hS1
  refine lv_if_eq (tgt := 346) hx hb dL_law_319 (by decide) (fun c9 => absurd c9 (by decide)) (fun _ => ?_)
  refine lv_aload_n hx hb dL_law_322 rfl (lv_at hl 6 rfl) ?_
  have hF3 := zF hD2 hS2 hA
  refine va_calli (va_runS (As := [.ref (Q 0)]) (rest := []) ⟨hx, hb, hml, hown, hts⟩ (c_L_arePlaced l dC dI cY Q AD AE HQ hr2 hst H2.size) (va_cwS 1 hts gL_law_L_arePlaced rfl rfl rfl (by decide +kernel) ⟨Nat.le_of_ble_eq_true rfl, Nat.le_of_ble_eq_true rfl⟩) ⟨blindX, fun U hU hW => ⟨rfl, xPre_of hP2 hK hN hD2 xn xt xz hS2 hF3 U hU hW⟩⟩ rfl rfl hl.1 rfl (lv_room (Nat.le_of_ble_eq_true rfl)) dL_law_323 ⟨by show C + 96 + 4 ≤ 600074; omega, by show S9 + 576 + 24 ≤ 7301550; omega⟩) hS2 (fun q _ h => hF3 q h) hF3 (fun r3 w3 t3 H3 locs3 ht3 hvm hq3 hB3 hz9 hk9 hS3 => ?_)
  clear hvm hz9 hk9
  obtain ⟨er3, ev3⟩ := hq3
  rw [ev3] at hB3
  subst er3
  obtain ⟨hP3, hD3⟩ := hB3
  rw [ht3] at hP3
  replace hD3 := hD3.weaken (fun _ q _ h => hF3 q.1 h)
  clear hF3 ht3 hP2 hD2 hS2
  refine lv_if_eq (tgt := 346) hx hb dL_law_326 (by decide) (fun c9 => absurd c9 (by decide)) (fun _ => ?_)
  refine lv_aload_n hx hb dL_law_329 rfl (lv_at hl 6 rfl) ?_
  refine lv_iload hx hb dL_law_330 (lv_at hl 3 rfl) ?_
  refine lv_iconst (v := 0) hx hb dL_law_332 (by decide) ?_
  refine lv_iconst (v := 0) hx hb dL_law_333 (by decide) ?_
  have hF4 := zF hD3 hS3 hA
  refine va_calli (va_runV (As := [.int (nI ea), .int 0, .int 0]) (rest := []) ⟨hx, hb, hml, hown, hts⟩ (o_again l dC dI cY Q AD AE HQ (w := 0) hr2 hT hea (Or.inl rfl) (by decide) hst H3.size) (cwV 3 hts gL_law_X7_again rfl rfl rfl (by decide +kernel) ⟨Nat.le_of_ble_eq_true rfl, Nat.le_of_ble_eq_true rfl⟩) ⟨blindX, va_recv hK hP3 (ci := 7) (q0 := 0) rfl rfl, fun U hU hW => ⟨rfl, xPre_of hP3 hK hN hD3 xn xt xz hS3 hF4 U hU hW⟩⟩ rfl rfl hl.1 rfl (lv_room (Nat.le_of_ble_eq_true rfl)) dL_law_334 ⟨by show C + 100 + 2 ≤ 600074; omega, by show S9 + 600 + 12 ≤ 7301550; omega⟩) hS3 (fun q _ h => hF4 q h) hF4 (fun r4 w4 t4 H4 locs4 ht4 hvm hq4 hB4 hz9 hk9 hS4 => ?_)
  clear hvm hz9 hk9
  obtain ⟨er4, hr4, sm4⟩ := hq4
  subst er4
  obtain ⟨hP4, hD4⟩ := hB4
  rw [ht4] at hP4
  replace hD4 := hD4.weaken (fun _ q _ h => hF4 q.1 h)
  clear hF4 ht4 hP3 hD3 hS3
  refine lv_iload hx hb dL_law_337 (lv_at hl 4 rfl) ?_
  refine lv_icmp_ne (tgt := 346) hx hb dL_law_339 (by decide) (fun c9 => absurd c9 (fun q => q (((sm1.tr sm2).tl ea 0 (nI 0)).trans hpl.symm))) (fun _ => ?_)
  refine lv_iconst (v := 1) hx hb dL_law_342 (by decide) ?_
  refine lv_goto (tgt := 347) hx hb dL_law_343 (by decide) ?_
  refine lv_istore_n (lv' := [(3, .int 1), (7, .int (nI i)), (4, .int (nI fr)), (5, .int (nI ea)), (6, .int pl), (0, .ref b), (1, .ref (Q 0)), (2, .int (nI n))]) hx hb dL_law_347 rfl hl (by decide) rfl (fun ls hl => ?_)
  refine lv_iload_n hx hb dL_law_348 rfl (lv_at hl 0 rfl) ?_
  refine lv_if_eq (tgt := 399) hx hb dL_law_349 (by decide) (fun c9 => absurd c9 (by decide)) (fun _ => ?_)
  refine lv_aload_n hx hb dL_law_352 rfl (lv_at hl 6 rfl) ?_
  have hF5 := zF hD4 hS4 hA
  refine va_calli (va_runV (As := []) (rest := []) ⟨hx, hb, hml, hown, hts⟩ (o_winner l dC dI cY Q AD AE HQ w4 H4.size) (cwV 0 hts gL_law_X7_winner rfl rfl rfl (by decide +kernel) ⟨Nat.le_of_ble_eq_true rfl, Nat.le_of_ble_eq_true rfl⟩) ⟨blindX, va_recv hK hP4 (ci := 7) (q0 := 0) rfl rfl, fun U hU hW => ⟨rfl, xPre_of hP4 hK hN hD4 xn xt xz hS4 hF5 U hU hW⟩⟩ rfl rfl hl.1 rfl (lv_room (Nat.le_of_ble_eq_true rfl)) dL_law_353 ⟨by show C + 102 + 0 ≤ 600074; omega, by show S9 + 612 + 0 ≤ 7301550; omega⟩) hS4 (fun q _ h => hF5 q h) hF5 (fun r5 w5 t5 H5 locs5 ht5 hvm hq5 hB5 hz9 hk9 hS5 => ?_)
  clear hvm hz9 hk9
  obtain ⟨er5, ev5⟩ := hq5
  rw [ev5] at hB5
  subst er5
  obtain ⟨hP5, hD5⟩ := hB5
  rw [ht5] at hP5
  replace hD5 := hD5.weaken (fun _ q _ h => hF5 q.1 h)
  clear hF5 ht5 hP4 hD4 hS4
  have sm := (sm1.tr sm2).tr sm4
  obtain ⟨won1, won2⟩ := won_facts hr4
  refine lv_iconst (v := (-1)) hx hb dL_law_356 (by decide) ?_
  by_cases hw : X0_wonBy_r (w4.1 8) (w4.1 9) = -1
  · obtain ⟨lt1, lt2⟩ := won1 hw
    refine lv_icmp_ne (tgt := 364) hx hb dL_law_357 (by decide) (fun c9 => absurd c9 (fun q => q hw)) (fun _ => ?_)
    refine lv_iconst (v := 1) hx hb dL_law_360 (by decide) ?_
    refine lv_goto (tgt := 365) hx hb dL_law_361 (by decide) ?_
    refine lv_aload_n hx hb dL_law_365 rfl (lv_at hl 6 rfl) ?_
    refine lv_iconst (v := 0) hx hb dL_law_366 (by decide) ?_
    refine lv_bipush (v := 7) hx hb dL_law_367 (by decide) ?_
    have hF6 := zF hD5 hS5 hA
    refine va_calli (va_runV (As := [.int 0, .int 7]) (rest := [.int 1]) ⟨hx, hb, hml, hown, hts⟩ (o_of l dC dI cY Q AD AE HQ w4 0 7 hst (show X7_of_x 0 7 = 0 by decide) H5.size) (cwV 2 hts gL_law_X7_of rfl rfl rfl (by decide +kernel) ⟨Nat.le_of_ble_eq_true rfl, Nat.le_of_ble_eq_true rfl⟩) ⟨blindX, va_recv hK hP5 (ci := 7) (q0 := 0) rfl rfl, fun U hU hW => ⟨rfl, xPre_of hP5 hK hN hD5 xn xt xz hS5 hF6 U hU hW⟩⟩ rfl rfl hl.1 rfl (lv_room (Nat.le_of_ble_eq_true rfl)) dL_law_369 ⟨by show C + 102 + 2 ≤ 600074; omega, by show S9 + 612 + 12 ≤ 7301550; omega⟩) hS5 (fun q _ h => hF6 q h) hF6 (fun r6 w6 t6 H6 locs6 ht6 hvm hq6 hB6 hz9 hk9 hS6 => ?_)
    clear hvm hz9 hk9
    obtain ⟨er6, ev6⟩ := hq6
    rw [ev6] at hB6
    subst er6
    obtain ⟨hP6, hD6⟩ := hB6
    rw [ht6] at hP6
    replace hD6 := hD6.weaken (fun _ q _ h => hF6 q.1 h)
    clear hF6 ht6 hP5 hD5 hS5
    refine lv_iconst (v := 2) hx hb dL_law_372 (by decide) ?_
    refine lv_icmp_ge (tgt := 391) hx hb dL_law_373 (by decide) (fun c9 => absurd c9 (Int32.not_le.mpr lt1)) (fun _ => ?_)
    refine lv_aload_n hx hb dL_law_376 rfl (lv_at hl 6 rfl) ?_
    refine lv_iconst (v := 1) hx hb dL_law_377 (by decide) ?_
    refine lv_bipush (v := 7) hx hb dL_law_378 (by decide) ?_
    have hF7 := zF hD6 hS6 hA
    refine va_calli (va_runV (As := [.int 1, .int 7]) (rest := [.int 1]) ⟨hx, hb, hml, hown, hts⟩ (o_of l dC dI cY Q AD AE HQ w4 1 7 hst (show X7_of_x 1 7 = 0 by decide) H6.size) (cwV 2 hts gL_law_X7_of rfl rfl rfl (by decide +kernel) ⟨Nat.le_of_ble_eq_true rfl, Nat.le_of_ble_eq_true rfl⟩) ⟨blindX, va_recv hK hP6 (ci := 7) (q0 := 0) rfl rfl, fun U hU hW => ⟨rfl, xPre_of hP6 hK hN hD6 xn xt xz hS6 hF7 U hU hW⟩⟩ rfl rfl hl.1 rfl (lv_room (Nat.le_of_ble_eq_true rfl)) dL_law_380 ⟨by show C + 104 + 2 ≤ 600074; omega, by show S9 + 624 + 12 ≤ 7301550; omega⟩) hS6 (fun q _ h => hF7 q h) hF7 (fun r7 w7 t7 H7 locs7 ht7 hvm hq7 hB7 hz9 hk9 hS7 => ?_)
    clear hvm hz9 hk9
    obtain ⟨er7, ev7⟩ := hq7
    rw [ev7] at hB7
    subst er7
    obtain ⟨hP7, hD7⟩ := hB7
    rw [ht7] at hP7
    replace hD7 := hD7.weaken (fun _ q _ h => hF7 q.1 h)
    clear hF7 ht7 hP6 hD6 hS6
    refine lv_iconst (v := 2) hx hb dL_law_383 (by decide) ?_
    refine lv_icmp_ge (tgt := 391) hx hb dL_law_384 (by decide) (fun c9 => absurd c9 (Int32.not_le.mpr lt2)) (fun _ => ?_)
    refine lv_iconst (v := 1) hx hb dL_law_387 (by decide) ?_
    refine lv_goto (tgt := 392) hx hb dL_law_388 (by decide) ?_
    refine lv_icmp_ne (tgt := 399) hx hb dL_law_392 (by decide) (fun c9 => absurd c9 (by decide)) (fun _ => ?_)
    refine lv_iconst (v := 1) hx hb dL_law_395 (by decide) ?_
    refine lv_goto (tgt := 400) hx hb dL_law_396 (by decide) ?_
    refine lv_istore_n (lv' := [(3, .int 1), (7, .int (nI i)), (4, .int (nI fr)), (5, .int (nI ea)), (6, .int pl), (0, .ref b), (1, .ref (Q 0)), (2, .int (nI n))]) hx hb dL_law_400 rfl hl (by decide) rfl (fun ls hl => ?_)
    refine lv_iinc (v := (nI (i + 1))) (lv' := [(7, .int (nI (i + 1))), (3, .int 1), (4, .int (nI fr)), (5, .int (nI ea)), (6, .int pl), (0, .ref b), (1, .ref (Q 0)), (2, .int (nI n))]) hx hb dL_law_401 hl (k := 1) rfl (nI_1 i) (by decide) rfl (fun ls hl => ?_)
    refine lv_goto (tgt := 69) hx hb dL_law_404 (by decide) ?_
    refine W.widen (k := (C + 106)) (n := (S9 + 636)) (by omega) (by omega) ?_
    have hl := lv_sub hl (l' := [(7, .int (nI (i + 1))), (3, .int 1), (4, .int (nI fr)), (5, .int (nI ea)), (6, .int pl), (0, .ref b), (1, .ref (Q 0)), (2, .int (nI n))]) [0, 1, 2, 3, 4, 5, 6, 7] rfl
    exact kk hr4 sm hP7 hD7 hS7 hl
  · refine lv_icmp_ne (tgt := 364) hx hb dL_law_357 (by decide) (fun _ => ?_) (fun c9 => absurd c9 hw)
    refine lv_iconst (v := 0) hx hb dL_law_364 (by decide) ?_
    refine lv_aload_n hx hb dL_law_365 rfl (lv_at hl 6 rfl) ?_
    refine lv_iconst (v := 0) hx hb dL_law_366 (by decide) ?_
    refine lv_bipush (v := 7) hx hb dL_law_367 (by decide) ?_
    have hF6 := zF hD5 hS5 hA
    refine va_calli (va_runV (As := [.int 0, .int 7]) (rest := [.int 0]) ⟨hx, hb, hml, hown, hts⟩ (o_of l dC dI cY Q AD AE HQ w4 0 7 hst (show X7_of_x 0 7 = 0 by decide) H5.size) (cwV 2 hts gL_law_X7_of rfl rfl rfl (by decide +kernel) ⟨Nat.le_of_ble_eq_true rfl, Nat.le_of_ble_eq_true rfl⟩) ⟨blindX, va_recv hK hP5 (ci := 7) (q0 := 0) rfl rfl, fun U hU hW => ⟨rfl, xPre_of hP5 hK hN hD5 xn xt xz hS5 hF6 U hU hW⟩⟩ rfl rfl hl.1 rfl (lv_room (Nat.le_of_ble_eq_true rfl)) dL_law_369 ⟨by show C + 102 + 2 ≤ 600074; omega, by show S9 + 612 + 12 ≤ 7301550; omega⟩) hS5 (fun q _ h => hF6 q h) hF6 (fun r6 w6 t6 H6 locs6 ht6 hvm hq6 hB6 hz9 hk9 hS6 => ?_)
    clear hvm hz9 hk9
    obtain ⟨er6, ev6⟩ := hq6
    rw [ev6] at hB6
    subst er6
    obtain ⟨hP6, hD6⟩ := hB6
    rw [ht6] at hP6
    replace hD6 := hD6.weaken (fun _ q _ h => hF6 q.1 h)
    clear hF6 ht6 hP5 hD5 hS5
    refine lv_iconst (v := 2) hx hb dL_law_372 (by decide) ?_
    by_cases lt1 : ofZ w4 0 7 < 2
    · have lt2 : 2 ≤ ofZ w4 1 7 := Int32.not_lt.mp (fun z => hw (won2 lt1 z))
      refine lv_icmp_ge (tgt := 391) hx hb dL_law_373 (by decide) (fun c9 => absurd c9 (Int32.not_le.mpr lt1)) (fun _ => ?_)
      refine lv_aload_n hx hb dL_law_376 rfl (lv_at hl 6 rfl) ?_
      refine lv_iconst (v := 1) hx hb dL_law_377 (by decide) ?_
      refine lv_bipush (v := 7) hx hb dL_law_378 (by decide) ?_
      have hF7 := zF hD6 hS6 hA
      refine va_calli (va_runV (As := [.int 1, .int 7]) (rest := [.int 0]) ⟨hx, hb, hml, hown, hts⟩ (o_of l dC dI cY Q AD AE HQ w4 1 7 hst (show X7_of_x 1 7 = 0 by decide) H6.size) (cwV 2 hts gL_law_X7_of rfl rfl rfl (by decide +kernel) ⟨Nat.le_of_ble_eq_true rfl, Nat.le_of_ble_eq_true rfl⟩) ⟨blindX, va_recv hK hP6 (ci := 7) (q0 := 0) rfl rfl, fun U hU hW => ⟨rfl, xPre_of hP6 hK hN hD6 xn xt xz hS6 hF7 U hU hW⟩⟩ rfl rfl hl.1 rfl (lv_room (Nat.le_of_ble_eq_true rfl)) dL_law_380 ⟨by show C + 104 + 2 ≤ 600074; omega, by show S9 + 624 + 12 ≤ 7301550; omega⟩) hS6 (fun q _ h => hF7 q h) hF7 (fun r7 w7 t7 H7 locs7 ht7 hvm hq7 hB7 hz9 hk9 hS7 => ?_)
      clear hvm hz9 hk9
      obtain ⟨er7, ev7⟩ := hq7
      rw [ev7] at hB7
      subst er7
      obtain ⟨hP7, hD7⟩ := hB7
      rw [ht7] at hP7
      replace hD7 := hD7.weaken (fun _ q _ h => hF7 q.1 h)
      clear hF7 ht7 hP6 hD6 hS6
      refine lv_iconst (v := 2) hx hb dL_law_383 (by decide) ?_
      refine lv_icmp_ge (tgt := 391) hx hb dL_law_384 (by decide) (fun _ => ?_) (fun c9 => absurd lt2 c9)
      refine lv_iconst (v := 0) hx hb dL_law_391 (by decide) ?_
      refine lv_icmp_ne (tgt := 399) hx hb dL_law_392 (by decide) (fun c9 => absurd c9 (by decide)) (fun _ => ?_)
      refine lv_iconst (v := 1) hx hb dL_law_395 (by decide) ?_
      refine lv_goto (tgt := 400) hx hb dL_law_396 (by decide) ?_
      refine lv_istore_n (lv' := [(3, .int 1), (7, .int (nI i)), (4, .int (nI fr)), (5, .int (nI ea)), (6, .int pl), (0, .ref b), (1, .ref (Q 0)), (2, .int (nI n))]) hx hb dL_law_400 rfl hl (by decide) rfl (fun ls hl => ?_)
      refine lv_iinc (v := (nI (i + 1))) (lv' := [(7, .int (nI (i + 1))), (3, .int 1), (4, .int (nI fr)), (5, .int (nI ea)), (6, .int pl), (0, .ref b), (1, .ref (Q 0)), (2, .int (nI n))]) hx hb dL_law_401 hl (k := 1) rfl (nI_1 i) (by decide) rfl (fun ls hl => ?_)
      refine lv_goto (tgt := 69) hx hb dL_law_404 (by decide) ?_
      refine W.widen (k := (C + 106)) (n := (S9 + 636)) (by omega) (by omega) ?_
      have hl := lv_sub hl (l' := [(7, .int (nI (i + 1))), (3, .int 1), (4, .int (nI fr)), (5, .int (nI ea)), (6, .int pl), (0, .ref b), (1, .ref (Q 0)), (2, .int (nI n))]) [0, 1, 2, 3, 4, 5, 6, 7] rfl
      exact kk hr4 sm hP7 hD7 hS7 hl
    · refine lv_icmp_ge (tgt := 391) hx hb dL_law_373 (by decide) (fun _ => ?_) (fun c9 => absurd (Int32.not_lt.mp lt1) c9)
      refine lv_iconst (v := 0) hx hb dL_law_391 (by decide) ?_
      refine lv_icmp_ne (tgt := 399) hx hb dL_law_392 (by decide) (fun c9 => absurd c9 (by decide)) (fun _ => ?_)
      refine lv_iconst (v := 1) hx hb dL_law_395 (by decide) ?_
      refine lv_goto (tgt := 400) hx hb dL_law_396 (by decide) ?_
      refine lv_istore_n (lv' := [(3, .int 1), (7, .int (nI i)), (4, .int (nI fr)), (5, .int (nI ea)), (6, .int pl), (0, .ref b), (1, .ref (Q 0)), (2, .int (nI n))]) hx hb dL_law_400 rfl hl (by decide) rfl (fun ls hl => ?_)
      refine lv_iinc (v := (nI (i + 1))) (lv' := [(7, .int (nI (i + 1))), (3, .int 1), (4, .int (nI fr)), (5, .int (nI ea)), (6, .int pl), (0, .ref b), (1, .ref (Q 0)), (2, .int (nI n))]) hx hb dL_law_401 hl (k := 1) rfl (nI_1 i) (by decide) rfl (fun ls hl => ?_)
      refine lv_goto (tgt := 69) hx hb dL_law_404 (by decide) ?_
      refine W.widen (k := (C + 106)) (n := (S9 + 636)) (by omega) (by omega) ?_
      have hl := lv_sub hl (l' := [(7, .int (nI (i + 1))), (3, .int 1), (4, .int (nI fr)), (5, .int (nI ea)), (6, .int pl), (0, .ref b), (1, .ref (Q 0)), (2, .int (nI n))]) [0, 1, 2, 3, 4, 5, 6, 7] rfl
      exact kk hr4 sm hP6 hD6 hS6 hl
