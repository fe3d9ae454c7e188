/-! the law from its object to its end -/
/-- a fresh object -/
def u00 : zS := (fun _ => 0, fun k => if k = 6 then (fun _ => 0) else if k = 7 then (fun _ => 0) else if k = 8 then (fun _ => 0) else if k = 9 then (fun _ => 0) else if k % 2 = 0 then X2_init_w0 (fun _ => 0) 1 else X2_init_w0 (fun _ => 0) 0, fun _ _ => 0, fun _ _ => 0)
theorem mk00 : mkZ 0 u00 := ⟨rfl, rfl, ⟨by omega, fun i hi => absurd hi (by omega), fun i hi => absurd hi (by omega)⟩, fun _ _ => Or.inl rfl, ⟨⟨rfl, rfl⟩, ⟨rfl, rfl⟩, ⟨rfl, rfl⟩, ⟨rfl, rfl⟩, rfl, rfl⟩, rfl⟩
set_option maxHeartbeats 8000000 in
set_option maxRecDepth 100000 in
theorem law_go {p : Program} {l : Launch} {e : Env} {s : State} {m : MethodId} {args : Array Value} {below : List Frame} {meth : Method} {c : Code} {Qz : State → Prop} {dC : Nat → ClassId} {dI : Nat → Nat → Nat} {cY : Nat → ClassId} {Q AD AE HQ : Nat → Nat} {A : Nat → Prop} {H : Heap} {locs : List Loc} {ls : Array Slot} {u : zS} {b L : Nat} {xs : Nat → Int32} (hL : L ≤ 260) (hX : va_X b L xs s s.heap) (hbl : b < s.heap.size) (hbA : ¬ A b) (hst : l.stackTraces = false) (B : bdF p s m c args cL_law 12 wsL_law dC dI cY A) (h : mkZ 0 u) (hP : va_P (dC, dI) vwCl (obW cY Q AD AE HQ u) H) (hD : va_D A (obW cY Q AD AE HQ u)) (hS : va_S A s.heap H locs) (hl : lv_has ls 12 [(1, .ref (Q 0)), (0, .ref b)]) (kk : ∀ {v : zS} {H : Heap} {locs : List Loc} {ls : Array Slot}, va_P (dC, dI) vwCl (obW cY Q AD AE HQ v) H → va_D A (obW cY Q AD AE HQ v) → va_S A s.heap H locs → lv_has ls 12 [(3, .int 1)] → W p l e room_1 s m args below meth c H locs 7000 70000 Qz (F0 m 529 ls [])) : W p l e room_1 s m args below meth c H locs 100 2000 Qz (F0 m 8 ls []) := by
  have B0 := B
  obtain ⟨hx, hb, hml, hown, hts, hK, hN, xn, xt, xz, hA⟩ := B
  refine lv_iconst (v := 1) hx hb dL_law_8 (by decide) ?_
  refine lv_aload_n hx hb dL_law_9 rfl (lv_at hl 1 rfl) ?_
  refine lv_bipush (v := 30) hx hb dL_law_10 (by decide) ?_
  refine vp_callSi (W.runS (As := [.ref b, .int 30]) (rest := [.int 1]) ⟨hx, hb, hml, hown, hts⟩ (c_L_told l (b := b) (L := L) (k := 30) (xs := xs) hL (by omega)) (va_cwS 2 hts gL_law_L_told rfl rfl rfl (by decide +kernel) ⟨Nat.le_of_ble_eq_true rfl, Nat.le_of_ble_eq_true rfl⟩) ⟨blindT, fun U hU hW => ⟨rfl, zX hX hbl hbA hS U hU hW⟩⟩ rfl rfl hl.1 rfl (lv_room (Nat.le_of_ble_eq_true rfl)) dL_law_12 ⟨Nat.le_of_ble_eq_true rfl, Nat.le_of_ble_eq_true rfl⟩) (fun r91 hw9 => ?_)
  obtain ⟨t, ht, rfl⟩ := hw9
  refine lv_iconst (v := 4) hx hb dL_law_15 (by decide) ?_
  refine lv_irem hx hb dL_law_16 (by decide) ?_
  refine lv_topi (fun x2 ex2 => ?_)
  obtain rfl : x2 = (nI (t % 4)) := ex2.trans (pk_rem (a := t) (d := 4) (by omega) (by omega) (by omega))
  refine lv_iadd hx hb dL_law_17 ?_
  refine lv_topi (fun x3 ex3 => ?_)
  obtain rfl : x3 = (nI (1 + t % 4)) := ex3.trans (nI_add 1 (t % 4))
  refine lv_istore_n (lv' := [(2, .int (nI (1 + t % 4))), (1, .ref (Q 0)), (0, .ref b)]) hx hb dL_law_18 rfl hl (by decide) rfl (fun ls hl => ?_)
  refine lv_aload_n hx hb dL_law_19 rfl (lv_at hl 1 rfl) ?_
  refine lv_aload_n hx hb dL_law_20 rfl (lv_at hl 2 rfl) ?_
  refine lv_iload_n hx hb dL_law_21 rfl (lv_at hl 0 rfl) ?_
  have hF1 := zF hD hS hA
  refine va_calli (va_runS (As := [.ref (Q 0), .ref b, .int (nI (1 + t % 4))]) (rest := []) ⟨hx, hb, hml, hown, hts⟩ (c_L_makes l dC dI cY Q AD AE HQ (M := 1 + t % 4) (b := b) (L := L) (xs := xs) hL h (show 1 + t % 4 ≤ 4 by omega) hst H.size) (va_cwS 3 hts gL_law_L_makes rfl rfl rfl (by decide +kernel) ⟨Nat.le_of_ble_eq_true rfl, Nat.le_of_ble_eq_true rfl⟩) ⟨blindS, fun U hU hW => ⟨rfl, xPre_of hP hK hN hD xn xt xz hS hF1 U hU hW, (zX hX hbl hbA hS U hU hW).1, (zX hX hbl hbA hS U hU hW).2, fun z => hbA (hF1 b (by rw [hU] at z; exact z))⟩⟩ rfl rfl hl.1 rfl (lv_room (Nat.le_of_ble_eq_true rfl)) dL_law_22 ⟨Nat.le_of_ble_eq_true rfl, Nat.le_of_ble_eq_true rfl⟩) hS (fun q _ h => hF1 q h) hF1 (fun r1 w1 t1 H1 locs1 ht1 hvm hq1 hB1 hz9 hk9 hS1 => ?_)
  clear hvm hz9 hk9
  obtain ⟨er1, hm1⟩ := hq1
  subst er1
  obtain ⟨hP1, hD1⟩ := hB1
  rw [ht1] at hP1
  replace hD1 := hD1.weaken (fun _ q _ h => hF1 q.1 h)
  clear hF1 ht1 hP hD hS
  refine lv_if_eq (tgt := 55) hx hb dL_law_25 (by decide) (fun c9 => absurd c9 (by decide)) (fun _ => ?_)
  refine lv_aload_n hx hb dL_law_28 rfl (lv_at hl 1 rfl) ?_
  refine lv_bipush (v := 20) hx hb dL_law_29 (by decide) ?_
  refine lv_iconst (v := 2) hx hb dL_law_31 (by decide) ?_
  refine lv_aload_n hx hb dL_law_32 rfl (lv_at hl 2 rfl) ?_
  refine lv_bipush (v := 31) hx hb dL_law_33 (by decide) ?_
  refine vp_callSi (W.runS (As := [.ref b, .int 31]) (rest := [.int 2, .int 20, .ref (Q 0)]) ⟨hx, hb, hml, hown, hts⟩ (c_L_told l (b := b) (L := L) (k := 31) (xs := xs) hL (by omega)) (va_cwS 2 hts gL_law_L_told rfl rfl rfl (by decide +kernel) ⟨Nat.le_of_ble_eq_true rfl, Nat.le_of_ble_eq_true rfl⟩) ⟨blindT, fun U hU hW => ⟨rfl, zX hX hbl hbA hS1 U hU hW⟩⟩ rfl rfl hl.1 rfl (lv_room (Nat.le_of_ble_eq_true rfl)) dL_law_35 ⟨Nat.le_of_ble_eq_true rfl, Nat.le_of_ble_eq_true rfl⟩) (fun r94 hw9 => ?_)
  obtain ⟨v, hv, rfl⟩ := hw9
  refine lv_sipush (v := 141) hx hb dL_law_38 (by decide) ?_
  refine lv_irem hx hb dL_law_41 (by decide) ?_
  refine lv_topi (fun x5 ex5 => ?_)
  obtain rfl : x5 = (nI (v % 141)) := ex5.trans (pk_rem (a := v) (d := 141) (by omega) (by omega) (by omega))
  refine lv_imul hx hb dL_law_42 ?_
  refine lv_topi (fun x6 ex6 => ?_)
  obtain rfl : x6 = (nI (2 * (v % 141))) := ex6.trans (pk_mul 2 (v % 141))
  refine lv_iadd hx hb dL_law_43 ?_
  refine lv_topi (fun x7 ex7 => ?_)
  obtain rfl : x7 = (nI (20 + 2 * (v % 141))) := ex7.trans (nI_add 20 (2 * (v % 141)))
  have hF2 := zF hD1 hS1 hA
  refine va_calli (va_runV (As := [.int (nI (20 + 2 * (v % 141)))]) (rest := []) ⟨hx, hb, hml, hown, hts⟩ (o_begin l dC dI cY Q AD AE HQ (hm1.bg (show 1 ≤ 1 + t % 4 by omega)) (by decide) (show 20 ≤ 20 + 2 * (v % 141) by omega) (by omega) (by omega) hst H1.size) (cwV 1 hts gL_law_X7_begin rfl rfl rfl (by decide +kernel) ⟨Nat.le_of_ble_eq_true rfl, Nat.le_of_ble_eq_true rfl⟩) ⟨blindX, va_recv hK hP1 (ci := 7) (q0 := 0) rfl rfl, fun U hU hW => ⟨rfl, xPre_of hP1 hK hN hD1 xn xt xz hS1 hF2 U hU hW⟩⟩ rfl rfl hl.1 rfl (lv_room (Nat.le_of_ble_eq_true rfl)) dL_law_44 ⟨Nat.le_of_ble_eq_true rfl, Nat.le_of_ble_eq_true rfl⟩) hS1 (fun q _ h => hF2 q h) hF2 (fun r2 w2 t2 H2 locs2 ht2 hvm hq2 hB2 hz9 hk9 hS2 => ?_)
  clear hvm hz9 hk9
  obtain ⟨er2, -, hr2, go2, -, -⟩ := hq2
  replace er2 := er2 hm1.2.2.2.2.2
  subst er2
  obtain ⟨hP2, hD2⟩ := hB2
  rw [ht2] at hP2
  replace hD2 := hD2.weaken (fun _ q _ h => hF2 q.1 h)
  clear hF2 ht2 hP1 hD1 hS1
  refine lv_iconst (v := 1) hx hb dL_law_47 (by decide) ?_
  refine lv_icmp_ne (tgt := 55) hx hb dL_law_48 (by decide) (fun c9 => absurd c9 (by decide)) (fun _ => ?_)
  refine lv_iconst (v := 1) hx hb dL_law_51 (by decide) ?_
  refine lv_goto (tgt := 56) hx hb dL_law_52 (by decide) ?_
  refine lv_istore_n (lv' := [(3, .int 1), (2, .int (nI (1 + t % 4))), (1, .ref (Q 0)), (0, .ref b)]) hx hb dL_law_56 rfl hl (by decide) rfl (fun ls hl => ?_)
  refine lv_iconst (v := 0) hx hb dL_law_57 (by decide) ?_
  refine lv_istore (lv' := [(4, .int 0), (3, .int 1), (2, .int (nI (1 + t % 4))), (1, .ref (Q 0)), (0, .ref b)]) hx hb dL_law_58 hl (by decide) rfl (fun ls hl => ?_)
  refine lv_iconst (v := 0) hx hb dL_law_60 (by decide) ?_
  refine lv_istore (lv' := [(5, .int 0), (4, .int 0), (3, .int 1), (2, .int (nI (1 + t % 4))), (1, .ref (Q 0)), (0, .ref b)]) hx hb dL_law_61 hl (by decide) rfl (fun ls hl => ?_)
  refine lv_iconst (v := 0) hx hb dL_law_63 (by decide) ?_
  refine lv_istore (lv' := [(6, .int 0), (5, .int 0), (4, .int 0), (3, .int 1), (2, .int (nI (1 + t % 4))), (1, .ref (Q 0)), (0, .ref b)]) hx hb dL_law_64 hl (by decide) rfl (fun ls hl => ?_)
  refine lv_iconst (v := 0) hx hb dL_law_66 (by decide) ?_
  refine lv_istore (lv' := [(7, .int 0), (6, .int 0), (5, .int 0), (4, .int 0), (3, .int 1), (2, .int (nI (1 + t % 4))), (1, .ref (Q 0)), (0, .ref b)]) hx hb dL_law_67 hl (by decide) rfl (fun ls hl => ?_)
  generalize hn9 : 1 + t % 4 = n at hr2 hl
  have hn4 : n ≤ 4 := by omega
  have hl := lv_sub hl (l' := [(7, .int (nI 0)), (3, .int 1), (4, .int (nI 0)), (5, .int (nI 0)), (6, .int 0), (0, .ref b), (1, .ref (Q 0)), (2, .int (nI n))]) [0, 4, 3, 2, 1, 7, 6, 5] rfl
  refine W.widen (k := 1000) (n := 10000) (Nat.le_of_ble_eq_true rfl) (Nat.le_of_ble_eq_true rfl) ?_
  refine law_l hL hX hbl hbA hst B0 40 0 1000 10000 0 1 0 0 w2 H2 _ _ rfl (by decide) (by decide) hr2 (by decide) (Nat.le_refl _) (fun _ => go2) (fun q => absurd q (by decide)) hP2 hD2 hS2 hl (fun {v f1 ea1 pl1} hv {H locs ls} hP hD hS hl => ?_)
  refine lv_iload hx hb dL_law_69 (lv_at hl 0 rfl) ?_
  refine lv_bipush (v := 40) hx hb dL_law_71 (by decide) ?_
  refine lv_icmp_ge (tgt := 407) hx hb dL_law_73 (by decide) (fun _ => ?_) (fun c9 => absurd (by decide) c9)
  refine lv_iconst (v := 0) hx hb dL_law_407 (by decide) ?_
  refine lv_istore (lv' := [(7, .int 0), (3, .int 1), (4, .int (nI f1)), (5, .int (nI ea1)), (6, .int pl1), (0, .ref b), (1, .ref (Q 0)), (2, .int (nI n))]) hx hb dL_law_408 hl (by decide) rfl (fun ls hl => ?_)
  have hl := lv_sub hl (l' := [(7, .int (nI 0)), (3, .int 1), (0, .ref b), (1, .ref (Q 0)), (2, .int (nI n))]) [0, 1, 5, 6, 7] rfl
  refine lab_l (b := b) hst B0 hn4 n 0 6000 60000 v H locs ls (by omega) (by omega) (by omega) hv hP hD hS hl (fun {v} hv {H locs ls} hP hD hS hl => ?_)
  refine lv_iload hx hb dL_law_410 (lv_at hl 0 rfl) ?_
  refine lv_iload_n hx hb dL_law_412 rfl (lv_at hl 4 rfl) ?_
  refine lv_icmp_ge (tgt := 529) hx hb dL_law_413 (by decide) (fun _ => ?_) (fun c9 => absurd (Int32.le_refl _) c9)
  have hl := lv_sub hl (l' := [(3, .int 1)]) [1] rfl
  exact kk hP hD hS hl
