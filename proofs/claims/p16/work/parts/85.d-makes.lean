/-! makes -/
set_option maxHeartbeats 8000000 in
set_option maxRecDepth 100000 in
theorem makes_b {p : Program} {l : Launch} {e : Env} {s : State} {m : MethodId} {args : Array Value} {below : List Frame} {meth : Method} {c : Code} {Qz : State → Prop} {dC : Nat → ClassId} {dI : Nat → Nat → Nat} {cY : Nat → ClassId} {Q AD AE HQ : Nat → Nat} {A : Nat → Prop} {H : Heap} {locs : List Loc} {ls : Array Slot} {M j C S9 : Nat} {u : zS} {b L : Nat} {xs : Nat → Int32} (hL : L ≤ 260) (hX : va_X b L xs s s.heap) (hbl : b < s.heap.size) (hbA : ¬ A b) (hst : l.stackTraces = false) (B : bdF p s m c args cL_makes 7 wsL_makes dC dI cY A) (h : mkZ j u) (hj : j < M) (hM : M ≤ 4) (hC : C + 19 ≤ 80) (hS9 : S9 + 114 ≤ 480) (hP : va_P (dC, dI) vwCl (obW cY Q AD AE HQ u) H) (hD : va_D A (obW cY Q AD AE HQ u)) (hS : va_S A s.heap H locs) (hl : lv_has ls 7 [(4, .int (nI j)), (3, .int 1), (0, .ref (Q 0)), (1, .ref b), (2, .int (nI M))]) (kk : ∀ {v : zS}, mkZ (j + 1) v → ∀ {H : Heap} {locs : List Loc} {ls : Array Slot}, va_P (dC, dI) vwCl (obW cY Q AD AE HQ v) H → va_D A (obW cY Q AD AE HQ v) → va_S A s.heap H locs → lv_has ls 7 [(4, .int (nI (j + 1))), (3, .int 1), (0, .ref (Q 0)), (1, .ref b), (2, .int (nI M))] → W p l e ({ frames := 8, cells := 80, slots := 480, locals := 200 } : Room) s m args below meth c H locs (C + 19) (S9 + 114) Qz (F0 m 5 ls [])) : W p l e ({ frames := 8, cells := 80, slots := 480, locals := 200 } : Room) s m args below meth c H locs C S9 Qz (F0 m 5 ls []) := by
  obtain ⟨hx, hb, hml, hown, hts, hK, hN, xn, xt, xz, hA⟩ := B
  refine lv_iload hx hb dL_makes_5 (lv_at hl 0 rfl) ?_
  refine lv_iload_n hx hb dL_makes_7 rfl (lv_at hl 4 rfl) ?_
  refine lv_icmp_ge (tgt := 177) hx hb dL_makes_8 (by decide) (fun c9 => absurd c9 (nI_ge hj (by omega))) (fun _ => ?_)
  refine lv_aload_n hx hb dL_makes_11 rfl (lv_at hl 3 rfl) ?_
  refine lv_iconst (v := 2) hx hb dL_makes_12 (by decide) ?_
  refine lv_iload hx hb dL_makes_13 (lv_at hl 0 rfl) ?_
  refine lv_imul hx hb dL_makes_15 ?_
  refine lv_topi (fun x1 ex1 => ?_)
  obtain rfl : x1 = (nI (2 * j)) := ex1.trans (pk_mul 2 j)
  refine vp_callSi (W.runS (As := [.ref b, .int (nI (2 * j))]) (rest := []) ⟨hx, hb, hml, hown, hts⟩ (c_L_told l (b := b) (L := L) (k := (2 * j)) (xs := xs) hL (by omega)) (va_cwS 2 hts gL_makes_L_told rfl rfl rfl (by decide +kernel) ⟨Nat.le_of_ble_eq_true rfl, Nat.le_of_ble_eq_true rfl⟩) ⟨blindT, fun U hU hW => ⟨rfl, zX hX hbl hbA hS U hU hW⟩⟩ rfl rfl hl.1 rfl (lv_room (Nat.le_of_ble_eq_true rfl)) dL_makes_16 ⟨by show C + 0 + 0 ≤ 80; omega, by show S9 + 0 + 0 ≤ 480; omega⟩) (fun r92 hw9 => ?_)
  obtain ⟨v, hv, rfl⟩ := hw9
  refine lv_istore (lv' := [(5, .int (nI v)), (4, .int (nI j)), (3, .int 1), (0, .ref (Q 0)), (1, .ref b), (2, .int (nI M))]) hx hb dL_makes_19 hl (by decide) rfl (fun ls hl => ?_)
  refine lv_aload_n hx hb dL_makes_21 rfl (lv_at hl 4 rfl) ?_
  refine lv_iconst (v := 2) hx hb dL_makes_22 (by decide) ?_
  refine lv_iload hx hb dL_makes_23 (lv_at hl 1 rfl) ?_
  refine lv_imul hx hb dL_makes_25 ?_
  refine lv_topi (fun x3 ex3 => ?_)
  obtain rfl : x3 = (nI (2 * j)) := ex3.trans (pk_mul 2 j)
  refine lv_iconst (v := 1) hx hb dL_makes_26 (by decide) ?_
  refine lv_iadd hx hb dL_makes_27 ?_
  refine lv_topi (fun x4 ex4 => ?_)
  obtain rfl : x4 = (nI (2 * j + 1)) := ex4.trans (nI_1 (2 * j))
  refine vp_callSi (W.runS (As := [.ref b, .int (nI (2 * j + 1))]) (rest := []) ⟨hx, hb, hml, hown, hts⟩ (c_L_told l (b := b) (L := L) (k := (2 * j + 1)) (xs := xs) hL (by omega)) (va_cwS 2 hts gL_makes_L_told rfl rfl rfl (by decide +kernel) ⟨Nat.le_of_ble_eq_true rfl, Nat.le_of_ble_eq_true rfl⟩) ⟨blindT, fun U hU hW => ⟨rfl, zX hX hbl hbA hS U hU hW⟩⟩ rfl rfl hl.1 rfl (lv_room (Nat.le_of_ble_eq_true rfl)) dL_makes_28 ⟨by show C + 0 + 0 ≤ 80; omega, by show S9 + 0 + 0 ≤ 480; omega⟩) (fun r95 hw9 => ?_)
  obtain ⟨y, hy, rfl⟩ := hw9
  refine lv_istore (lv' := [(6, .int (nI y)), (5, .int (nI v)), (4, .int (nI j)), (3, .int 1), (0, .ref (Q 0)), (1, .ref b), (2, .int (nI M))]) hx hb dL_makes_31 hl (by decide) rfl (fun ls hl => ?_)
  refine lv_iload_n hx hb dL_makes_33 rfl (lv_at hl 3 rfl) ?_
  refine lv_if_eq (tgt := 108) hx hb dL_makes_34 (by decide) (fun c9 => absurd c9 (by decide)) (fun _ => ?_)
  refine lv_aload_n hx hb dL_makes_37 rfl (lv_at hl 4 rfl) ?_
  refine lv_iconst (v := 1) hx hb dL_makes_38 (by decide) ?_
  refine lv_iload hx hb dL_makes_39 (lv_at hl 1 rfl) ?_
  refine lv_bipush (v := 12) hx hb dL_makes_41 (by decide) ?_
  refine lv_irem hx hb dL_makes_43 (by decide) ?_
  refine lv_topi (fun x6 ex6 => ?_)
  obtain rfl : x6 = (nI (v % 12)) := ex6.trans (pk_rem (a := v) (d := 12) (by omega) (by omega) (by omega))
  refine lv_iadd hx hb dL_makes_44 ?_
  refine lv_topi (fun x7 ex7 => ?_)
  obtain rfl : x7 = (nI (1 + v % 12)) := ex7.trans (nI_add 1 (v % 12))
  refine lv_iconst (v := 1) hx hb dL_makes_45 (by decide) ?_
  refine lv_iload hx hb dL_makes_46 (lv_at hl 1 rfl) ?_
  refine lv_bipush (v := 16) hx hb dL_makes_48 (by decide) ?_
  refine lv_idiv hx hb dL_makes_50 (by decide) ?_
  refine lv_topi (fun x8 ex8 => ?_)
  obtain rfl : x8 = (nI (v / 16)) := ex8.trans (pk_div (a := v) (d := 16) (by omega) (by omega) (by omega))
  refine lv_bipush (v := 6) hx hb dL_makes_51 (by decide) ?_
  refine lv_irem hx hb dL_makes_53 (by decide) ?_
  refine lv_topi (fun x9 ex9 => ?_)
  obtain rfl : x9 = (nI (v / 16 % 6)) := ex9.trans (pk_rem (a := v / 16) (d := 6) (by omega) (by omega) (by omega))
  refine lv_iadd hx hb dL_makes_54 ?_
  refine lv_topi (fun x10 ex10 => ?_)
  obtain rfl : x10 = (nI (1 + v / 16 % 6)) := ex10.trans (nI_add 1 (v / 16 % 6))
  refine lv_iconst (v := 1) hx hb dL_makes_55 (by decide) ?_
  refine lv_iload hx hb dL_makes_56 (lv_at hl 1 rfl) ?_
  refine lv_sipush (v := 128) hx hb dL_makes_58 (by decide) ?_
  refine lv_idiv hx hb dL_makes_61 (by decide) ?_
  refine lv_topi (fun x11 ex11 => ?_)
  obtain rfl : x11 = (nI (v / 128)) := ex11.trans (pk_div (a := v) (d := 128) (by omega) (by omega) (by omega))
  refine lv_bipush (v := 20) hx hb dL_makes_62 (by decide) ?_
  refine lv_irem hx hb dL_makes_64 (by decide) ?_
  refine lv_topi (fun x12 ex12 => ?_)
  obtain rfl : x12 = (nI (v / 128 % 20)) := ex12.trans (pk_rem (a := v / 128) (d := 20) (by omega) (by omega) (by omega))
  refine lv_iadd hx hb dL_makes_65 ?_
  refine lv_topi (fun x13 ex13 => ?_)
  obtain rfl : x13 = (nI (1 + v / 128 % 20)) := ex13.trans (nI_add 1 (v / 128 % 20))
  refine lv_bipush (v := 20) hx hb dL_makes_66 (by decide) ?_
  refine lv_iload hx hb dL_makes_68 (lv_at hl 1 rfl) ?_
  refine lv_sipush (v := 4096) hx hb dL_makes_70 (by decide) ?_
  refine lv_idiv hx hb dL_makes_73 (by decide) ?_
  refine lv_topi (fun x14 ex14 => ?_)
  obtain rfl : x14 = (nI (v / 4096)) := ex14.trans (pk_div (a := v) (d := 4096) (by omega) (by omega) (by omega))
  refine lv_bipush (v := 100) hx hb dL_makes_74 (by decide) ?_
  refine lv_irem hx hb dL_makes_76 (by decide) ?_
  refine lv_topi (fun x15 ex15 => ?_)
  obtain rfl : x15 = (nI (v / 4096 % 100)) := ex15.trans (pk_rem (a := v / 4096) (d := 100) (by omega) (by omega) (by omega))
  refine lv_iadd hx hb dL_makes_77 ?_
  refine lv_topi (fun x16 ex16 => ?_)
  obtain rfl : x16 = (nI (20 + v / 4096 % 100)) := ex16.trans (nI_add 20 (v / 4096 % 100))
  refine lv_iload hx hb dL_makes_78 (lv_at hl 1 rfl) ?_
  refine lv_ldc (v := 524288) hx hb hown (hts (.constant RL 15 524288) (List.mem_of_getElem? (i := 1) rfl)) dL_makes_80 ?_
  refine lv_idiv hx hb dL_makes_82 (by decide) ?_
  refine lv_topi (fun x17 ex17 => ?_)
  obtain rfl : x17 = (nI (v / 524288)) := ex17.trans (pk_div (a := v) (d := 524288) (by omega) (by omega) (by omega))
  refine lv_iconst (v := 4) hx hb dL_makes_83 (by decide) ?_
  refine lv_irem hx hb dL_makes_84 (by decide) ?_
  refine lv_topi (fun x18 ex18 => ?_)
  obtain rfl : x18 = (nI (v / 524288 % 4)) := ex18.trans (pk_rem (a := v / 524288) (d := 4) (by omega) (by omega) (by omega))
  refine lv_iconst (v := 1) hx hb dL_makes_85 (by decide) ?_
  refine lv_iload hx hb dL_makes_86 (lv_at hl 1 rfl) ?_
  refine lv_ldc (v := 2097152) hx hb hown (hts (.constant RL 16 2097152) (List.mem_of_getElem? (i := 2) rfl)) dL_makes_88 ?_
  refine lv_idiv hx hb dL_makes_90 (by decide) ?_
  refine lv_topi (fun x19 ex19 => ?_)
  obtain rfl : x19 = (nI (v / 2097152)) := ex19.trans (pk_div (a := v) (d := 2097152) (by omega) (by omega) (by omega))
  refine lv_sipush (v := 200) hx hb dL_makes_91 (by decide) ?_
  refine lv_irem hx hb dL_makes_94 (by decide) ?_
  refine lv_topi (fun x20 ex20 => ?_)
  obtain rfl : x20 = (nI (v / 2097152 % 200)) := ex20.trans (pk_rem (a := v / 2097152) (d := 200) (by omega) (by omega) (by omega))
  refine lv_iadd hx hb dL_makes_95 ?_
  refine lv_topi (fun x21 ex21 => ?_)
  obtain rfl : x21 = (nI (1 + v / 2097152 % 200)) := ex21.trans (nI_add 1 (v / 2097152 % 200))
  have hF1 := zF hD hS hA
  refine va_calli (va_runV (As := [.int (nI (1 + v % 12)), .int (nI (1 + v / 16 % 6)), .int (nI (1 + v / 128 % 20)), .int (nI (20 + v / 4096 % 100)), .int (nI (v / 524288 % 4)), .int (nI (1 + v / 2097152 % 200))]) (rest := []) ⟨hx, hb, hml, hown, hts⟩ (o_move l dC dI cY Q AD AE HQ h (show j < 6 by omega) (by omega) (by omega) (by omega) (by omega) (by omega) (by omega) (by omega) (by omega) (by omega) (by omega) (by omega) hst H.size) (cwV 6 hts gL_makes_X7_move rfl rfl rfl (by decide +kernel) ⟨Nat.le_of_ble_eq_true rfl, Nat.le_of_ble_eq_true rfl⟩) ⟨blindX, va_recv hK hP (ci := 7) (q0 := 0) rfl rfl, fun U hU hW => ⟨rfl, xPre_of hP hK hN hD xn xt xz hS hF1 U hU hW⟩⟩ rfl rfl hl.1 rfl (lv_room (Nat.le_of_ble_eq_true rfl)) dL_makes_96 ⟨by show C + 0 + 8 ≤ 80; omega, by show S9 + 0 + 48 ≤ 480; omega⟩) hS (fun q _ h => hF1 q h) hF1 (fun r1 w1 t1 H1 locs1 ht1 hvm hq1 hB1 hz9 hk9 hS1 => ?_)
  clear hvm hz9 hk9
  obtain ⟨er1, hm1⟩ := hq1
  subst er1
  obtain ⟨hP1, hD1⟩ := hB1
  rw [ht1] at hP1
  replace hD1 := hD1.weaken (fun _ q _ h => hF1 q.1 h)
  clear hF1 ht1 hP hD hS
  refine lv_iload hx hb dL_makes_99 (lv_at hl 2 rfl) ?_
  refine lv_icmp_ne (tgt := 108) hx hb dL_makes_101 (by decide) (fun c9 => absurd c9 (fun q => q rfl)) (fun _ => ?_)
  refine lv_iconst (v := 1) hx hb dL_makes_104 (by decide) ?_
  refine lv_goto (tgt := 109) hx hb dL_makes_105 (by decide) ?_
  refine lv_istore_n (lv' := [(3, .int 1), (6, .int (nI y)), (5, .int (nI v)), (4, .int (nI j)), (0, .ref (Q 0)), (1, .ref b), (2, .int (nI M))]) hx hb dL_makes_109 rfl hl (by decide) rfl (fun ls hl => ?_)
  refine lv_aload_n hx hb dL_makes_110 rfl (lv_at hl 4 rfl) ?_
  refine lv_iload hx hb dL_makes_111 (lv_at hl 3 rfl) ?_
  refine lv_iload hx hb dL_makes_113 (lv_at hl 1 rfl) ?_
  refine lv_iconst (v := 5) hx hb dL_makes_115 (by decide) ?_
  refine lv_irem hx hb dL_makes_116 (by decide) ?_
  refine lv_topi (fun x22 ex22 => ?_)
  obtain rfl : x22 = (nI (y % 5)) := ex22.trans (pk_rem (a := y) (d := 5) (by omega) (by omega) (by omega))
  refine lv_iload hx hb dL_makes_117 (lv_at hl 1 rfl) ?_
  refine lv_bipush (v := 8) hx hb dL_makes_119 (by decide) ?_
  refine lv_idiv hx hb dL_makes_121 (by decide) ?_
  refine lv_topi (fun x23 ex23 => ?_)
  obtain rfl : x23 = (nI (y / 8)) := ex23.trans (pk_div (a := y) (d := 8) (by omega) (by omega) (by omega))
  refine lv_bipush (v := 40) hx hb dL_makes_122 (by decide) ?_
  refine lv_irem hx hb dL_makes_124 (by decide) ?_
  refine lv_topi (fun x24 ex24 => ?_)
  obtain rfl : x24 = (nI (y / 8 % 40)) := ex24.trans (pk_rem (a := y / 8) (d := 40) (by omega) (by omega) (by omega))
  have hF2 := zF hD1 hS1 hA
  refine va_calli (va_runV (As := [.int (nI j), .int (nI (y % 5)), .int (nI (y / 8 % 40))]) (rest := []) ⟨hx, hb, hml, hown, hts⟩ (o_patch l dC dI cY Q AD AE HQ hm1 (show j < j + 1 by omega) (by omega) (by omega) hst H1.size) (cwV 3 hts gL_makes_X7_patch rfl rfl rfl (by decide +kernel) ⟨Nat.le_of_ble_eq_true rfl, Nat.le_of_ble_eq_true rfl⟩) ⟨blindX, va_recv hK hP1 (ci := 7) (q0 := 0) rfl rfl, fun U hU hW => ⟨rfl, xPre_of hP1 hK hN hD1 xn xt xz hS1 hF2 U hU hW⟩⟩ rfl rfl hl.1 rfl (lv_room (Nat.le_of_ble_eq_true rfl)) dL_makes_125 ⟨by show C + 8 + 4 ≤ 80; omega, by show S9 + 48 + 24 ≤ 480; omega⟩) hS1 (fun q _ h => hF2 q h) hF2 (fun r2 w2 t2 H2 locs2 ht2 hvm hq2 hB2 hz9 hk9 hS2 => ?_)
  clear hvm hz9 hk9
  have hm2 := hq2
  obtain ⟨hP2, hD2⟩ := hB2
  rw [ht2] at hP2
  replace hD2 := hD2.weaken (fun _ q _ h => hF2 q.1 h)
  clear hF2 ht2 hP1 hD1 hS1
  refine lv_pop hx hb dL_makes_128 rfl ?_
  refine lv_aload_n hx hb dL_makes_129 rfl (lv_at hl 4 rfl) ?_
  refine lv_iload hx hb dL_makes_130 (lv_at hl 3 rfl) ?_
  refine lv_iload hx hb dL_makes_132 (lv_at hl 1 rfl) ?_
  refine lv_sipush (v := 512) hx hb dL_makes_134 (by decide) ?_
  refine lv_idiv hx hb dL_makes_137 (by decide) ?_
  refine lv_topi (fun x25 ex25 => ?_)
  obtain rfl : x25 = (nI (y / 512)) := ex25.trans (pk_div (a := y) (d := 512) (by omega) (by omega) (by omega))
  refine lv_iconst (v := 4) hx hb dL_makes_138 (by decide) ?_
  refine lv_irem hx hb dL_makes_139 (by decide) ?_
  refine lv_topi (fun x26 ex26 => ?_)
  obtain rfl : x26 = (nI (y / 512 % 4)) := ex26.trans (pk_rem (a := y / 512) (d := 4) (by omega) (by omega) (by omega))
  refine lv_iload hx hb dL_makes_140 (lv_at hl 1 rfl) ?_
  refine lv_sipush (v := 4096) hx hb dL_makes_142 (by decide) ?_
  refine lv_idiv hx hb dL_makes_145 (by decide) ?_
  refine lv_topi (fun x27 ex27 => ?_)
  obtain rfl : x27 = (nI (y / 4096)) := ex27.trans (pk_div (a := y) (d := 4096) (by omega) (by omega) (by omega))
  refine lv_bipush (v := 50) hx hb dL_makes_146 (by decide) ?_
  refine lv_irem hx hb dL_makes_148 (by decide) ?_
  refine lv_topi (fun x28 ex28 => ?_)
  obtain rfl : x28 = (nI (y / 4096 % 50)) := ex28.trans (pk_rem (a := y / 4096) (d := 50) (by omega) (by omega) (by omega))
  have hF3 := zF hD2 hS2 hA
  refine va_calli (va_runV (As := [.int (nI j), .int (nI (y / 512 % 4)), .int (nI (y / 4096 % 50))]) (rest := []) ⟨hx, hb, hml, hown, hts⟩ (o_patch l dC dI cY Q AD AE HQ hm2 (show j < j + 1 by omega) (by omega) (by omega) hst H2.size) (cwV 3 hts gL_makes_X7_patch rfl rfl rfl (by decide +kernel) ⟨Nat.le_of_ble_eq_true rfl, Nat.le_of_ble_eq_true rfl⟩) ⟨blindX, va_recv hK hP2 (ci := 7) (q0 := 0) rfl rfl, fun U hU hW => ⟨rfl, xPre_of hP2 hK hN hD2 xn xt xz hS2 hF3 U hU hW⟩⟩ rfl rfl hl.1 rfl (lv_room (Nat.le_of_ble_eq_true rfl)) dL_makes_149 ⟨by show C + 12 + 4 ≤ 80; omega, by show S9 + 72 + 24 ≤ 480; omega⟩) hS2 (fun q _ h => hF3 q h) hF3 (fun r3 w3 t3 H3 locs3 ht3 hvm hq3 hB3 hz9 hk9 hS3 => ?_)
  clear hvm hz9 hk9
  have hm3 := hq3
  obtain ⟨hP3, hD3⟩ := hB3
  rw [ht3] at hP3
  replace hD3 := hD3.weaken (fun _ q _ h => hF3 q.1 h)
  clear hF3 ht3 hP2 hD2 hS2
  refine lv_pop hx hb dL_makes_152 rfl ?_
  refine lv_aload_n hx hb dL_makes_153 rfl (lv_at hl 4 rfl) ?_
  refine lv_iload hx hb dL_makes_154 (lv_at hl 3 rfl) ?_
  refine lv_iload hx hb dL_makes_156 (lv_at hl 1 rfl) ?_
  refine lv_ldc (v := 262144) hx hb hown (hts (.constant RL 27 262144) (List.mem_of_getElem? (i := 3) rfl)) dL_makes_158 ?_
  refine lv_idiv hx hb dL_makes_160 (by decide) ?_
  refine lv_topi (fun x29 ex29 => ?_)
  obtain rfl : x29 = (nI (y / 262144)) := ex29.trans (pk_div (a := y) (d := 262144) (by omega) (by omega) (by omega))
  refine lv_iload hx hb dL_makes_161 (lv_at hl 3 rfl) ?_
  refine lv_iconst (v := 1) hx hb dL_makes_163 (by decide) ?_
  refine lv_iadd hx hb dL_makes_164 ?_
  refine lv_topi (fun x30 ex30 => ?_)
  obtain rfl : x30 = (nI (j + 1)) := ex30.trans (nI_1 j)
  refine lv_irem hx hb dL_makes_165 (nI_ne0 (by omega) (by omega)) ?_
  refine lv_topi (fun x31 ex31 => ?_)
  obtain rfl : x31 = (nI (y / 262144 % (j + 1))) := ex31.trans (pk_rem (a := y / 262144) (d := j + 1) (by omega) (by omega) (by omega))
  refine lv_iconst (v := 1) hx hb dL_makes_166 (by decide) ?_
  have hF4 := zF hD3 hS3 hA
  refine va_calli (va_runV (As := [.int (nI j), .int (nI (y / 262144 % (j + 1))), .int 1]) (rest := []) ⟨hx, hb, hml, hown, hts⟩ (o_cancel l dC dI cY Q AD AE HQ hm3 (show j < j + 1 by omega) (Nat.mod_lt _ (by omega)) hst H3.size) (cwV 3 hts gL_makes_X7_cancel rfl rfl rfl (by decide +kernel) ⟨Nat.le_of_ble_eq_true rfl, Nat.le_of_ble_eq_true rfl⟩) ⟨blindX, va_recv hK hP3 (ci := 7) (q0 := 0) rfl rfl, fun U hU hW => ⟨rfl, xPre_of hP3 hK hN hD3 xn xt xz hS3 hF4 U hU hW⟩⟩ rfl rfl hl.1 rfl (lv_room (Nat.le_of_ble_eq_true rfl)) dL_makes_167 ⟨by show C + 16 + 3 ≤ 80; omega, by show S9 + 96 + 18 ≤ 480; omega⟩) hS3 (fun q _ h => hF4 q h) hF4 (fun r4 w4 t4 H4 locs4 ht4 hvm hq4 hB4 hz9 hk9 hS4 => ?_)
  clear hvm hz9 hk9
  have hm4 := hq4
  obtain ⟨hP4, hD4⟩ := hB4
  rw [ht4] at hP4
  replace hD4 := hD4.weaken (fun _ q _ h => hF4 q.1 h)
  clear hF4 ht4 hP3 hD3 hS3
  refine lv_pop hx hb dL_makes_170 rfl ?_
  refine lv_iinc (v := (nI (j + 1))) (lv' := [(4, .int (nI (j + 1))), (3, .int 1), (6, .int (nI y)), (5, .int (nI v)), (0, .ref (Q 0)), (1, .ref b), (2, .int (nI M))]) hx hb dL_makes_171 hl (k := 3) rfl (nI_1 j) (by decide) rfl (fun ls hl => ?_)
  refine lv_goto (tgt := 5) hx hb dL_makes_174 (by decide) ?_
  have hl := lv_sub hl (l' := [(4, .int (nI (j + 1))), (3, .int 1), (0, .ref (Q 0)), (1, .ref b), (2, .int (nI M))]) [0, 1, 4, 5, 6] rfl
  exact kk hm4 hP4 hD4 hS4 hl
set_option maxHeartbeats 8000000 in
set_option maxRecDepth 100000 in
theorem makes_l {p : Program} {l : Launch} {e : Env} {s : State} {m : MethodId} {args : Array Value} {below : List Frame} {meth : Method} {c : Code} {Qz : State → Prop} {dC : Nat → ClassId} {dI : Nat → Nat → Nat} {cY : Nat → ClassId} {Q AD AE HQ : Nat → Nat} {A : Nat → Prop} {M : Nat} {b L : Nat} {xs : Nat → Int32} (hL : L ≤ 260) (hX : va_X b L xs s s.heap) (hbl : b < s.heap.size) (hbA : ¬ A b) (hst : l.stackTraces = false) (B : bdF p s m c args cL_makes 7 wsL_makes dC dI cY A) (hM : M ≤ 4) (k : Nat) : ∀ (j C S9 : Nat) (u : zS) (H : Heap) (locs : List Loc) (ls : Array Slot), j + k = M → C + 19 * k ≤ 80 → S9 + 114 * k ≤ 480 → mkZ j u → va_P (dC, dI) vwCl (obW cY Q AD AE HQ u) H → va_D A (obW cY Q AD AE HQ u) → va_S A s.heap H locs → lv_has ls 7 [(4, .int (nI j)), (3, .int 1), (0, .ref (Q 0)), (1, .ref b), (2, .int (nI M))] → (∀ {v : zS}, mkZ M v → ∀ {H : Heap} {locs : List Loc} {ls : Array Slot}, va_P (dC, dI) vwCl (obW cY Q AD AE HQ v) H → va_D A (obW cY Q AD AE HQ v) → va_S A s.heap H locs → lv_has ls 7 [(4, .int (nI M)), (3, .int 1), (0, .ref (Q 0)), (1, .ref b), (2, .int (nI M))] → W p l e ({ frames := 8, cells := 80, slots := 480, locals := 200 } : Room) s m args below meth c H locs 80 480 Qz (F0 m 5 ls [])) → W p l e ({ frames := 8, cells := 80, slots := 480, locals := 200 } : Room) s m args below meth c H locs C S9 Qz (F0 m 5 ls []) := by
  induction k with
  | zero =>
    intro j C S9 u H locs ls hj hC hS9 h hP hD hS hl kk
    have hj : j = M := hj
    subst hj
    refine W.widen (k := 80) (n := 480) (by omega) (by omega) ?_
    exact kk h hP hD hS hl
  | succ k ih =>
    intro j C S9 u H locs ls hj hC hS9 h hP hD hS hl kk
    exact makes_b hL hX hbl hbA hst B h (by omega) hM (by omega) (by omega) hP hD hS hl (fun {v} hv {H locs ls} hP hD hS hl => ih (j + 1) (C + 19) (S9 + 114) v H locs ls (by omega) (by omega) (by omega) hv hP hD hS hl kk)
/-- with the script's row beside -/
def sPre (D : va_G) (tys : List (ClassId × FieldType)) (ws : va_W) (sz b L : Nat) (xs : Nat → Int32) : State → Prop := fun U => xPre D tys ws sz U ∧ va_X b L xs U U.heap ∧ b < U.heap.size ∧ ¬ va_A ws U.heap.size b
theorem blindS {av : List Value} {D : va_G} {tys : List (ClassId × FieldType)} {ws : va_W} {sz b L : Nat} {xs : Nat → Int32} : FrameBlind (va_Pc av (sPre D tys ws sz b L xs)) := fun a U g mk q => by
  obtain ⟨q0, q1, q2, q3, q4⟩ := q
  exact ⟨q0, (blindX (D := D) (tys := tys) (ws := ws) (sz := sz) a U g mk ⟨q0, q1⟩).2, va_X.moved (u := U) (U := U.calling g mk a) (Vm.Alike.refl U.vm) q2, q3, q4⟩
set_option maxHeartbeats 8000000 in
set_option maxRecDepth 100000 in
theorem c_L_makes (l : Launch) (dC : Nat → ClassId) (dI : Nat → Nat → Nat) (cY : Nat → ClassId) (Q AD AE HQ : Nat → Nat) {M b L : Nat} {xs : Nat → Int32} {u : zS} (hL : L ≤ 260) (h : mkZ 0 u) (hM : M ≤ 4) (hst : l.stackTraces = false) (sz : Nat) : Met l yL_makes wsL_makes ({ frames := 8, cells := 80, slots := 480, locals := 200 } : Room) (va_Pc [.ref (Q 0), .ref b, .int (nI M)] (sPre (dC, dI) (tyL cY) (obW cY Q AD AE HQ u) sz b L xs)) (va_Qi (fun r v => r = 1 ∧ mkZ M v) (fun v t => wPost (dC, dI) (obW cY Q AD AE HQ v) (va_A (obW cY Q AD AE HQ u) sz) () t) (va_A (obW cY Q AD AE HQ u) sz)) 80 480 (va_A (obW cY Q AD AE HQ u) sz) := by
  refine Met.ofW (cc := cL_makes) (maxL := 7) (ret := (some .boolean)) (by decide) rfl ?_
  intro p e s m args below meth c s₁ B hml hv
  obtain ⟨rfl, ⟨hsz, hP, hK, hN, hD0, xn, xt, xz⟩, hX, hbl, hbA⟩ := hv
  subst hsz
  have hx := B.exec
  have hb := B.bytes
  have hr := B.returns
  have hts := atoms_spec (ws := wsL_makes) B.pre
  have hown : s.vm.findClass RL = some m.cls := findClass_of_methodNamed B.named
  have hlocks := B.notSynchronized
  have hD := hD0.self (sz := s.heap.size)
  generalize hAe : va_A (obW cY Q AD AE HQ u) s.heap.size = A at hD xz hbA ⊢
  have hA : ∀ q : Nat, s.heap.size ≤ q → A q := fun q h => by rw [← hAe]; exact Or.inr h
  have hS : va_S A s.heap s.heap [] := va_S.rf
  have BF : bdF p s m c ([.ref (Q 0), .ref b, .int (nI M)]).toArray cL_makes 7 wsL_makes dC dI cY A := ⟨hx, hb, hml, hown, hts, hK, hN, xn, xt, xz, hA⟩
  have hl := lv_entry ([.ref (Q 0), .ref b, .int (nI M)]) (n := 7) (Nat.le_of_ble_eq_true rfl)
  rw [lg_entry_eq]
  generalize (lg_sl ([.ref (Q 0), .ref b, .int (nI M)]) ++ List.replicate (7 - (lg_sl ([.ref (Q 0), .ref b, .int (nI M)])).length) Slot.unset).toArray = ls at hl ⊢
  have hl : lv_has ls 7 [(0, .ref (Q 0)), (1, .ref b), (2, .int (nI M))] := hl
  refine lv_iconst (v := 1) hx hb dL_makes_0 (by decide) ?_
  refine lv_istore_n (lv' := [(3, .int 1), (0, .ref (Q 0)), (1, .ref b), (2, .int (nI M))]) hx hb dL_makes_1 rfl hl (by decide) rfl (fun ls hl => ?_)
  refine lv_iconst (v := 0) hx hb dL_makes_2 (by decide) ?_
  refine lv_istore (lv' := [(4, .int 0), (3, .int 1), (0, .ref (Q 0)), (1, .ref b), (2, .int (nI M))]) hx hb dL_makes_3 hl (by decide) rfl (fun ls hl => ?_)
  refine makes_l hL hX hbl hbA hst BF hM M 0 0 0 u s.heap [] ls (by omega) (by omega) (by omega) h hP hD hS hl (fun {v} hv {H locs ls} hP hD hS hl => ?_)
  refine lv_iload hx hb dL_makes_5 (lv_at hl 0 rfl) ?_
  refine lv_iload_n hx hb dL_makes_7 rfl (lv_at hl 4 rfl) ?_
  refine lv_icmp_ge (tgt := 177) hx hb dL_makes_8 (by decide) (fun _ => ?_) (fun c9 => absurd (Int32.le_refl _) c9)
  refine lv_iload_n hx hb dL_makes_177 rfl (lv_at hl 1 rfl) ?_
  exact W.zret (v := 1) (ty := .boolean) hx hb hr rfl (fun t ht _ => ⟨⟨_, v, rfl, ⟨rfl, hv⟩, wPost_of hP hD ht⟩, hS.F ht⟩) hS.2.2 dL_makes_178
