/-! the law, a piece of its walk -/
set_option maxHeartbeats 8000000 in
set_option maxRecDepth 100000 in
theorem lab_b {p : Program} {l : Launch} {e : Env} {s : State} {m : MethodId} {args : Array Value} {below : List Frame} {meth : Method} {c : Code} {Qz : State → Prop} {dC : Nat → ClassId} {dI : Nat → Nat → Nat} {cY : Nat → ClassId} {Q AD AE HQ : Nat → Nat} {A : Nat → Prop} {H : Heap} {locs : List Loc} {ls : Array Slot} {n j C S9 : Nat} {u : zS} {b : Nat} (hst : l.stackTraces = false) (B : bdF p s m c args cL_law 12 wsL_law dC dI cY A) (hn : n ≤ 4) (h : lbZ n u) (hj : j < n) (hC : C + 14 ≤ 600000) (hS9 : S9 + 84 ≤ 7301000) (hP : va_P (dC, dI) vwCl (obW cY Q AD AE HQ u) H) (hD : va_D A (obW cY Q AD AE HQ u)) (hS : va_S A s.heap H locs) (hl : lv_has ls 12 [(7, .int (nI j)), (3, .int 1), (0, .ref b), (1, .ref (Q 0)), (2, .int (nI n))]) (kk : ∀ {v : zS}, lbZ n v → ∀ {H : Heap} {locs : List Loc} {ls : Array Slot}, va_P (dC, dI) vwCl (obW cY Q AD AE HQ v) H → va_D A (obW cY Q AD AE HQ v) → va_S A s.heap H locs → lv_has ls 12 [(7, .int (nI (j + 1))), (3, .int 1), (0, .ref b), (1, .ref (Q 0)), (2, .int (nI n))] → W p l e room_1 s m args below meth c H locs (C + 14) (S9 + 84) Qz (F0 m 410 ls [])) : W p l e room_1 s m args below meth c H locs C S9 Qz (F0 m 410 ls []) := by
  obtain ⟨hx, hb, hml, hown, hts, hK, hN, xn, xt, xz, hA⟩ := B
  refine lv_iload hx hb dL_law_410 (lv_at hl 0 rfl) ?_
  refine lv_iload_n hx hb dL_law_412 rfl (lv_at hl 4 rfl) ?_
  refine lv_icmp_ge (tgt := 529) hx hb dL_law_413 (by decide) (fun c9 => absurd c9 (nI_ge hj (by omega))) (fun _ => ?_)
  refine lv_iload_n hx hb dL_law_416 rfl (lv_at hl 1 rfl) ?_
  refine lv_if_eq (tgt := 529) hx hb dL_law_417 (by decide) (fun c9 => absurd c9 (by decide)) (fun _ => ?_)
  refine lv_aload_n hx hb dL_law_420 rfl (lv_at hl 3 rfl) ?_
  refine lv_iload hx hb dL_law_421 (lv_at hl 0 rfl) ?_
  refine lv_iconst (v := 1) hx hb dL_law_423 (by decide) ?_
  refine lv_bipush (v := 50) hx hb dL_law_424 (by decide) ?_
  have hF1 := zF hD hS hA
  refine va_calli (va_runV (As := [.int (nI j), .int 1, .int 50]) (rest := []) ⟨hx, hb, hml, hown, hts⟩ (o_most l dC dI cY Q AD AE HQ h hj (Or.inl rfl) hst H.size) (cwV 3 hts gL_law_X7_most rfl rfl rfl (by decide +kernel) ⟨Nat.le_of_ble_eq_true rfl, Nat.le_of_ble_eq_true rfl⟩) ⟨blindX, va_recv hK hP (ci := 7) (q0 := 0) rfl rfl, fun U hU hW => ⟨rfl, xPre_of hP hK hN hD xn xt xz hS hF1 U hU hW⟩⟩ rfl rfl hl.1 rfl (lv_room (Nat.le_of_ble_eq_true rfl)) dL_law_426 ⟨by show C + 0 + 3 ≤ 600074; omega, by show S9 + 0 + 18 ≤ 7301550; omega⟩) hS (fun q _ h => hF1 q h) hF1 (fun r1 w1 t1 H1 locs1 ht1 hvm hq1 hB1 hz9 hk9 hS1 => ?_)
  clear hvm hz9 hk9
  obtain ⟨ms1, hl91, em1⟩ := hq1
  obtain ⟨hP1, hD1⟩ := hB1
  rw [ht1] at hP1
  replace hD1 := hD1.weaken (fun _ q _ h => hF1 q.1 h)
  clear hF1 ht1 hP hD hS
  refine lv_istore (lv' := [(8, .int r1), (7, .int (nI j)), (3, .int 1), (0, .ref b), (1, .ref (Q 0)), (2, .int (nI n))]) hx hb dL_law_429 hl (by decide) rfl (fun ls hl => ?_)
  refine lv_aload_n hx hb dL_law_431 rfl (lv_at hl 4 rfl) ?_
  refine lv_iload hx hb dL_law_432 (lv_at hl 1 rfl) ?_
  refine lv_iconst (v := 2) hx hb dL_law_434 (by decide) ?_
  refine lv_bipush (v := 50) hx hb dL_law_435 (by decide) ?_
  have hF2 := zF hD1 hS1 hA
  refine va_calli (va_runV (As := [.int (nI j), .int 2, .int 50]) (rest := []) ⟨hx, hb, hml, hown, hts⟩ (o_most l dC dI cY Q AD AE HQ hl91 hj (Or.inr rfl) hst H1.size) (cwV 3 hts gL_law_X7_most rfl rfl rfl (by decide +kernel) ⟨Nat.le_of_ble_eq_true rfl, Nat.le_of_ble_eq_true rfl⟩) ⟨blindX, va_recv hK hP1 (ci := 7) (q0 := 0) rfl rfl, fun U hU hW => ⟨rfl, xPre_of hP1 hK hN hD1 xn xt xz hS1 hF2 U hU hW⟩⟩ rfl rfl hl.1 rfl (lv_room (Nat.le_of_ble_eq_true rfl)) dL_law_437 ⟨by show C + 3 + 3 ≤ 600074; omega, by show S9 + 18 + 18 ≤ 7301550; omega⟩) hS1 (fun q _ h => hF2 q h) hF2 (fun r2 w2 t2 H2 locs2 ht2 hvm hq2 hB2 hz9 hk9 hS2 => ?_)
  clear hvm hz9 hk9
  obtain ⟨ms2, hl92, em2⟩ := hq2
  obtain ⟨hP2, hD2⟩ := hB2
  rw [ht2] at hP2
  replace hD2 := hD2.weaken (fun _ q _ h => hF2 q.1 h)
  clear hF2 ht2 hP1 hD1 hS1
  refine lv_iload hx hb dL_law_440 (lv_at hl 0 rfl) ?_
  rw [em1] at ms2
  by_cases hc : (hwZ u.2.2.1 (nI j)).1 = 0
  · have e1 : r1 = 0 := ms1.1 hc
    have e2 : r2 = 0 := ms2.1 hc
    refine lv_icmp_lt (tgt := 501) hx hb dL_law_442 (by decide) (fun c9 => absurd c9 (by rw [e1, e2]; decide)) (fun _ => ?_)
    refine lv_iload hx hb dL_law_445 (lv_at hl 0 rfl) ?_
    refine lv_if_ne (tgt := 454) hx hb dL_law_447 (by decide) (fun c9 => absurd c9 (fun q => q e1)) (fun _ => ?_)
    refine lv_iconst (v := 1) hx hb dL_law_450 (by decide) ?_
    refine lv_goto (tgt := 455) hx hb dL_law_451 (by decide) ?_
    refine lv_aload_n hx hb dL_law_455 rfl (lv_at hl 4 rfl) ?_
    refine lv_iload hx hb dL_law_456 (lv_at hl 1 rfl) ?_
    refine lv_iconst (v := 1) hx hb dL_law_458 (by decide) ?_
    refine lv_bipush (v := 50) hx hb dL_law_459 (by decide) ?_
    refine lv_iconst (v := 0) hx hb dL_law_461 (by decide) ?_
    have hF3 := zF hD2 hS2 hA
    refine va_calli (va_runV (As := [.int (nI j), .int 1, .int 50, .int 0]) (rest := [.int 1]) ⟨hx, hb, hml, hown, hts⟩ (o_mostAt l dC dI cY Q AD AE HQ hl92 hj (Or.inl rfl) hst H2.size) (cwV 4 hts gL_law_X7_mostAt rfl rfl rfl (by decide +kernel) ⟨Nat.le_of_ble_eq_true rfl, Nat.le_of_ble_eq_true rfl⟩) ⟨blindX, va_recv hK hP2 (ci := 7) (q0 := 0) rfl rfl, fun U hU hW => ⟨rfl, xPre_of hP2 hK hN hD2 xn xt xz hS2 hF3 U hU hW⟩⟩ rfl rfl hl.1 rfl (lv_room (Nat.le_of_ble_eq_true rfl)) dL_law_462 ⟨by show C + 6 + 3 ≤ 600074; omega, by show S9 + 36 + 18 ≤ 7301550; omega⟩) hS2 (fun q _ h => hF3 q h) hF3 (fun r3 w3 t3 H3 locs3 ht3 hvm hq3 hB3 hz9 hk9 hS3 => ?_)
    clear hvm hz9 hk9
    obtain ⟨xa3, xb3, hl93, em3⟩ := hq3
    obtain ⟨hP3, hD3⟩ := hB3
    rw [ht3] at hP3
    replace hD3 := hD3.weaken (fun _ q _ h => hF3 q.1 h)
    clear hF3 ht3 hP2 hD2 hS2
    refine lv_iconst (v := (-1)) hx hb dL_law_465 (by decide) ?_
    have e3 : r3 = -1 := xa3 (by rw [em2, em1]; exact hc)
    refine lv_icmp_ne (tgt := 473) hx hb dL_law_466 (by decide) (fun c9 => absurd c9 (fun q => q e3)) (fun _ => ?_)
    refine lv_iconst (v := 1) hx hb dL_law_469 (by decide) ?_
    refine lv_goto (tgt := 474) hx hb dL_law_470 (by decide) ?_
    refine lv_icmp_ne (tgt := 501) hx hb dL_law_474 (by decide) (fun c9 => absurd c9 (by decide)) (fun _ => ?_)
    refine lv_iload hx hb dL_law_477 (lv_at hl 0 rfl) ?_
    refine lv_if_eq (tgt := 497) hx hb dL_law_479 (by decide) (fun _ => ?_) (fun c9 => absurd e1 c9)
    refine lv_iconst (v := 1) hx hb dL_law_497 (by decide) ?_
    refine lv_goto (tgt := 502) hx hb dL_law_498 (by decide) ?_
    refine lv_istore_n (lv' := [(3, .int 1), (8, .int r1), (7, .int (nI j)), (0, .ref b), (1, .ref (Q 0)), (2, .int (nI n))]) hx hb dL_law_502 rfl hl (by decide) rfl (fun ls hl => ?_)
    refine lv_iload_n hx hb dL_law_503 rfl (lv_at hl 0 rfl) ?_
    refine lv_if_eq (tgt := 521) hx hb dL_law_504 (by decide) (fun c9 => absurd c9 (by decide)) (fun _ => ?_)
    refine lv_aload_n hx hb dL_law_507 rfl (lv_at hl 4 rfl) ?_
    refine lv_iload hx hb dL_law_508 (lv_at hl 2 rfl) ?_
    refine lv_iconst (v := 0) hx hb dL_law_510 (by decide) ?_
    have hF4 := zF hD3 hS3 hA
    refine va_calli (va_runV (As := [.int (nI j), .int 0]) (rest := []) ⟨hx, hb, hml, hown, hts⟩ (o_punish l dC dI cY Q AD AE HQ (b := 0) hl93 hj (by omega) hst H3.size) (cwV 2 hts gL_law_X7_punish rfl rfl rfl (by decide +kernel) ⟨Nat.le_of_ble_eq_true rfl, Nat.le_of_ble_eq_true rfl⟩) ⟨blindX, va_recv hK hP3 (ci := 7) (q0 := 0) rfl rfl, fun U hU hW => ⟨rfl, xPre_of hP3 hK hN hD3 xn xt xz hS3 hF4 U hU hW⟩⟩ rfl rfl hl.1 rfl (lv_room (Nat.le_of_ble_eq_true rfl)) dL_law_511 ⟨by show C + 9 + 2 ≤ 600074; omega, by show S9 + 54 + 12 ≤ 7301550; omega⟩) hS3 (fun q _ h => hF4 q h) hF4 (fun r4 w4 t4 H4 locs4 ht4 hvm hq4 hB4 hz9 hk9 hS4 => ?_)
    clear hvm hz9 hk9
    obtain ⟨pn4, hl94⟩ := hq4
    obtain ⟨hP4, hD4⟩ := hB4
    rw [ht4] at hP4
    replace hD4 := hD4.weaken (fun _ q _ h => hF4 q.1 h)
    clear hF4 ht4 hP3 hD3 hS3
    refine lv_if_lt (tgt := 521) hx hb dL_law_514 (by decide) (fun c9 => absurd c9 (Int32.not_lt.mpr pn4)) (fun _ => ?_)
    refine lv_iconst (v := 1) hx hb dL_law_517 (by decide) ?_
    refine lv_goto (tgt := 522) hx hb dL_law_518 (by decide) ?_
    refine lv_istore_n (lv' := [(3, .int 1), (8, .int r1), (7, .int (nI j)), (0, .ref b), (1, .ref (Q 0)), (2, .int (nI n))]) hx hb dL_law_522 rfl hl (by decide) rfl (fun ls hl => ?_)
    refine lv_iinc (v := (nI (j + 1))) (lv' := [(7, .int (nI (j + 1))), (3, .int 1), (8, .int r1), (0, .ref b), (1, .ref (Q 0)), (2, .int (nI n))]) hx hb dL_law_523 hl (k := 2) rfl (nI_1 j) (by decide) rfl (fun ls hl => ?_)
    refine lv_goto (tgt := 410) hx hb dL_law_526 (by decide) ?_
    refine W.widen (k := (C + 14)) (n := (S9 + 84)) (by omega) (by omega) ?_
    have hl := lv_sub hl (l' := [(7, .int (nI (j + 1))), (3, .int 1), (0, .ref b), (1, .ref (Q 0)), (2, .int (nI n))]) [0, 1, 3, 4, 5] rfl
    exact kk hl94 hP4 hD4 hS4 hl
  · obtain ⟨-, f1, nz⟩ := ms1.2 hc
    have f1 := f1 rfl
    have f2 := (ms2.2 hc).1
    have nz1 : ¬ r1 = 0 := by rw [f1]; exact nz
    refine lv_icmp_lt (tgt := 501) hx hb dL_law_442 (by decide) (fun c9 => absurd c9 (Int32.not_lt.mpr (by rw [f1]; exact f2))) (fun _ => ?_)
    refine lv_iload hx hb dL_law_445 (lv_at hl 0 rfl) ?_
    refine lv_if_ne (tgt := 454) hx hb dL_law_447 (by decide) (fun _ => ?_) (fun c9 => absurd c9 nz1)
    refine lv_iconst (v := 0) hx hb dL_law_454 (by decide) ?_
    refine lv_aload_n hx hb dL_law_455 rfl (lv_at hl 4 rfl) ?_
    refine lv_iload hx hb dL_law_456 (lv_at hl 1 rfl) ?_
    refine lv_iconst (v := 1) hx hb dL_law_458 (by decide) ?_
    refine lv_bipush (v := 50) hx hb dL_law_459 (by decide) ?_
    refine lv_iconst (v := 0) hx hb dL_law_461 (by decide) ?_
    have hF3 := zF hD2 hS2 hA
    refine va_calli (va_runV (As := [.int (nI j), .int 1, .int 50, .int 0]) (rest := [.int 0]) ⟨hx, hb, hml, hown, hts⟩ (o_mostAt l dC dI cY Q AD AE HQ hl92 hj (Or.inl rfl) hst H2.size) (cwV 4 hts gL_law_X7_mostAt rfl rfl rfl (by decide +kernel) ⟨Nat.le_of_ble_eq_true rfl, Nat.le_of_ble_eq_true rfl⟩) ⟨blindX, va_recv hK hP2 (ci := 7) (q0 := 0) rfl rfl, fun U hU hW => ⟨rfl, xPre_of hP2 hK hN hD2 xn xt xz hS2 hF3 U hU hW⟩⟩ rfl rfl hl.1 rfl (lv_room (Nat.le_of_ble_eq_true rfl)) dL_law_462 ⟨by show C + 6 + 3 ≤ 600074; omega, by show S9 + 36 + 18 ≤ 7301550; omega⟩) hS2 (fun q _ h => hF3 q h) hF3 (fun r3 w3 t3 H3 locs3 ht3 hvm hq3 hB3 hz9 hk9 hS3 => ?_)
    clear hvm hz9 hk9
    obtain ⟨xa3, xb3, hl93, em3⟩ := hq3
    obtain ⟨hP3, hD3⟩ := hB3
    rw [ht3] at hP3
    replace hD3 := hD3.weaken (fun _ q _ h => hF3 q.1 h)
    clear hF3 ht3 hP2 hD2 hS2
    refine lv_iconst (v := (-1)) hx hb dL_law_465 (by decide) ?_
    have e3 : r3 = nI j := xb3 (by rw [em2, em1]; exact hc)
    have n3 : ¬ r3 = -1 := by
      intro z
      have z2 := congrArg Int32.toInt (e3.symm.trans z)
      rw [nI_toInt (by omega), show (-1 : Int32).toInt = -1 from rfl] at z2
      omega
    refine lv_icmp_ne (tgt := 473) hx hb dL_law_466 (by decide) (fun _ => ?_) (fun c9 => absurd c9 n3)
    refine lv_iconst (v := 0) hx hb dL_law_473 (by decide) ?_
    refine lv_icmp_ne (tgt := 501) hx hb dL_law_474 (by decide) (fun c9 => absurd c9 (by decide)) (fun _ => ?_)
    refine lv_iload hx hb dL_law_477 (lv_at hl 0 rfl) ?_
    refine lv_if_eq (tgt := 497) hx hb dL_law_479 (by decide) (fun c9 => absurd c9 nz1) (fun _ => ?_)
    refine lv_aload_n hx hb dL_law_482 rfl (lv_at hl 4 rfl) ?_
    refine lv_iload hx hb dL_law_483 (lv_at hl 1 rfl) ?_
    refine lv_iconst (v := 2) hx hb dL_law_485 (by decide) ?_
    refine lv_bipush (v := 50) hx hb dL_law_486 (by decide) ?_
    refine lv_iconst (v := 0) hx hb dL_law_488 (by decide) ?_
    have hF4 := zF hD3 hS3 hA
    refine va_calli (va_runV (As := [.int (nI j), .int 2, .int 50, .int 0]) (rest := []) ⟨hx, hb, hml, hown, hts⟩ (o_mostAt l dC dI cY Q AD AE HQ hl93 hj (Or.inr rfl) hst H3.size) (cwV 4 hts gL_law_X7_mostAt rfl rfl rfl (by decide +kernel) ⟨Nat.le_of_ble_eq_true rfl, Nat.le_of_ble_eq_true rfl⟩) ⟨blindX, va_recv hK hP3 (ci := 7) (q0 := 0) rfl rfl, fun U hU hW => ⟨rfl, xPre_of hP3 hK hN hD3 xn xt xz hS3 hF4 U hU hW⟩⟩ rfl rfl hl.1 rfl (lv_room (Nat.le_of_ble_eq_true rfl)) dL_law_489 ⟨by show C + 9 + 3 ≤ 600074; omega, by show S9 + 54 + 18 ≤ 7301550; omega⟩) hS3 (fun q _ h => hF4 q h) hF4 (fun r4 w4 t4 H4 locs4 ht4 hvm hq4 hB4 hz9 hk9 hS4 => ?_)
    clear hvm hz9 hk9
    obtain ⟨xa4, xb4, hl94, em4⟩ := hq4
    obtain ⟨hP4, hD4⟩ := hB4
    rw [ht4] at hP4
    replace hD4 := hD4.weaken (fun _ q _ h => hF4 q.1 h)
    clear hF4 ht4 hP3 hD3 hS3
    refine lv_iload hx hb dL_law_492 (lv_at hl 1 rfl) ?_
    have e4 : r4 = nI j := xb4 (by rw [em3, em2, em1]; exact hc)
    refine lv_icmp_ne (tgt := 501) hx hb dL_law_494 (by decide) (fun c9 => absurd c9 (fun q => q e4)) (fun _ => ?_)
    refine lv_iconst (v := 1) hx hb dL_law_497 (by decide) ?_
    refine lv_goto (tgt := 502) hx hb dL_law_498 (by decide) ?_
    refine lv_istore_n (lv' := [(3, .int 1), (8, .int r1), (7, .int (nI j)), (0, .ref b), (1, .ref (Q 0)), (2, .int (nI n))]) hx hb dL_law_502 rfl hl (by decide) rfl (fun ls hl => ?_)
    refine lv_iload_n hx hb dL_law_503 rfl (lv_at hl 0 rfl) ?_
    refine lv_if_eq (tgt := 521) hx hb dL_law_504 (by decide) (fun c9 => absurd c9 (by decide)) (fun _ => ?_)
    refine lv_aload_n hx hb dL_law_507 rfl (lv_at hl 4 rfl) ?_
    refine lv_iload hx hb dL_law_508 (lv_at hl 2 rfl) ?_
    refine lv_iconst (v := 0) hx hb dL_law_510 (by decide) ?_
    have hF5 := zF hD4 hS4 hA
    refine va_calli (va_runV (As := [.int (nI j), .int 0]) (rest := []) ⟨hx, hb, hml, hown, hts⟩ (o_punish l dC dI cY Q AD AE HQ (b := 0) hl94 hj (by omega) hst H4.size) (cwV 2 hts gL_law_X7_punish rfl rfl rfl (by decide +kernel) ⟨Nat.le_of_ble_eq_true rfl, Nat.le_of_ble_eq_true rfl⟩) ⟨blindX, va_recv hK hP4 (ci := 7) (q0 := 0) rfl rfl, fun U hU hW => ⟨rfl, xPre_of hP4 hK hN hD4 xn xt xz hS4 hF5 U hU hW⟩⟩ rfl rfl hl.1 rfl (lv_room (Nat.le_of_ble_eq_true rfl)) dL_law_511 ⟨by show C + 12 + 2 ≤ 600074; omega, by show S9 + 72 + 12 ≤ 7301550; omega⟩) hS4 (fun q _ h => hF5 q h) hF5 (fun r5 w5 t5 H5 locs5 ht5 hvm hq5 hB5 hz9 hk9 hS5 => ?_)
    clear hvm hz9 hk9
    obtain ⟨pn5, hl95⟩ := hq5
    obtain ⟨hP5, hD5⟩ := hB5
    rw [ht5] at hP5
    replace hD5 := hD5.weaken (fun _ q _ h => hF5 q.1 h)
    clear hF5 ht5 hP4 hD4 hS4
    refine lv_if_lt (tgt := 521) hx hb dL_law_514 (by decide) (fun c9 => absurd c9 (Int32.not_lt.mpr pn5)) (fun _ => ?_)
    refine lv_iconst (v := 1) hx hb dL_law_517 (by decide) ?_
    refine lv_goto (tgt := 522) hx hb dL_law_518 (by decide) ?_
    refine lv_istore_n (lv' := [(3, .int 1), (8, .int r1), (7, .int (nI j)), (0, .ref b), (1, .ref (Q 0)), (2, .int (nI n))]) hx hb dL_law_522 rfl hl (by decide) rfl (fun ls hl => ?_)
    refine lv_iinc (v := (nI (j + 1))) (lv' := [(7, .int (nI (j + 1))), (3, .int 1), (8, .int r1), (0, .ref b), (1, .ref (Q 0)), (2, .int (nI n))]) hx hb dL_law_523 hl (k := 2) rfl (nI_1 j) (by decide) rfl (fun ls hl => ?_)
    refine lv_goto (tgt := 410) hx hb dL_law_526 (by decide) ?_
    refine W.widen (k := (C + 14)) (n := (S9 + 84)) (by omega) (by omega) ?_
    have hl := lv_sub hl (l' := [(7, .int (nI (j + 1))), (3, .int 1), (0, .ref b), (1, .ref (Q 0)), (2, .int (nI n))]) [0, 1, 3, 4, 5] rfl
    exact kk hl95 hP5 hD5 hS5 hl
set_option maxHeartbeats 8000000 in
set_option maxRecDepth 100000 in
theorem lab_l {p : Program} {l : Launch} {e : Env} {s : State} {m : MethodId} {args : Array Value} {below : List Frame} {meth : Method} {c : Code} {Qz : State → Prop} {dC : Nat → ClassId} {dI : Nat → Nat → Nat} {cY : Nat → ClassId} {Q AD AE HQ : Nat → Nat} {A : Nat → Prop} {n b : Nat} (hst : l.stackTraces = false) (B : bdF p s m c args cL_law 12 wsL_law dC dI cY A) (hn : n ≤ 4) (k : Nat) : ∀ (j C S9 : Nat) (u : zS) (H : Heap) (locs : List Loc) (ls : Array Slot), j + k = n → C + 14 * k ≤ 7000 → S9 + 84 * k ≤ 70000 → lbZ n u → va_P (dC, dI) vwCl (obW cY Q AD AE HQ u) H → va_D A (obW cY Q AD AE HQ u) → va_S A s.heap H locs → lv_has ls 12 [(7, .int (nI j)), (3, .int 1), (0, .ref b), (1, .ref (Q 0)), (2, .int (nI n))] → (∀ {v : zS}, lbZ n v → ∀ {H : Heap} {locs : List Loc} {ls : Array Slot}, va_P (dC, dI) vwCl (obW cY Q AD AE HQ v) H → va_D A (obW cY Q AD AE HQ v) → va_S A s.heap H locs → lv_has ls 12 [(7, .int (nI n)), (3, .int 1), (0, .ref b), (1, .ref (Q 0)), (2, .int (nI n))] → W p l e room_1 s m args below meth c H locs 7000 70000 Qz (F0 m 410 ls [])) → W p l e room_1 s m args below meth c H locs C S9 Qz (F0 m 410 ls []) := by
  induction k with
  | zero =>
    intro j C S9 u H locs ls hj hC hS9 h hP hD hS hl kk
    have hj : j = n := hj
    subst hj
    refine W.widen (k := 7000) (n := 70000) (by omega) (by omega) ?_
    exact kk h hP hD hS hl
  | succ k ih =>
    intro j C S9 u H locs ls hj hC hS9 h hP hD hS hl kk
    exact lab_b hst B hn h (by omega) (by omega) (by omega) hP hD hS hl (fun {v} hv {H locs ls} hP hD hS hl => ih (j + 1) (C + 14) (S9 + 84) v H locs ls (by omega) (by omega) (by omega) hv hP hD hS hl kk)
