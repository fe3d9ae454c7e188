/-! the law, a piece of its walk -/
set_option maxHeartbeats 8000000 in
set_option maxRecDepth 100000 in
theorem law_B {p : Program} {l : Launch} {e : Env} {s : State} {m : MethodId} {args : Array Value} {below : List Frame} {meth : Method} {c : Code} {Qz : State → Prop} {dC : Nat → ClassId} {dI : Nat → Nat → Nat} {cY : Nat → ClassId} {Q AD AE HQ : Nat → Nat} {A : Nat → Prop} {H : Heap} {locs : List Loc} {ls : Array Slot} {n fr T ea i v C S9 : Nat} {pl : Int32} {u : zS} {b L : Nat} {xs : Nat → Int32} (hL : L ≤ 260) (hX : va_X b L xs s s.heap) (hbl : b < s.heap.size) (hbA : ¬ A b) (hst : l.stackTraces = false) (B : bdF p s m c args cL_law 12 wsL_law dC dI cY A) (h : rdZ n fr T u) (hT : T ≤ 1000) (h0 : u.1 0 = 0) (hv : v < 2 ^ 31) (hC : C + 12 ≤ 600000) (hS9 : S9 + 72 ≤ 7301000) (hP : va_P (dC, dI) vwCl (obW cY Q AD AE HQ u) H) (hD : va_D A (obW cY Q AD AE HQ u)) (hS : va_S A s.heap H locs) (hl : lv_has ls 12 [(8, .int (nI v)), (7, .int (nI i)), (3, .int 1), (4, .int (nI fr)), (5, .int (nI ea)), (6, .int pl), (0, .ref b), (1, .ref (Q 0)), (2, .int (nI n))]) (kk : ∀ {w : zS} {pl1 : Int32}, rdZ n 0 (T + 1) w → w.1 0 = 1 → pl1 = tellZ w 0 0 (nI 0) → ∀ {H : Heap} {locs : List Loc} {ls : Array Slot}, va_P (dC, dI) vwCl (obW cY Q AD AE HQ w) H → va_D A (obW cY Q AD AE HQ w) → va_S A s.heap H locs → lv_has ls 12 [(7, .int (nI i)), (3, .int 1), (4, .int (nI 0)), (5, .int (nI 0)), (6, .int pl1), (0, .ref b), (1, .ref (Q 0)), (2, .int (nI n))] → W p l e room_1 s m args below meth c H locs (C + 12) (S9 + 72) Qz (F0 m 298 ls [])) : W p l e room_1 s m args below meth c H locs C S9 Qz (F0 m 98 ls []) := by
  obtain ⟨hx, hb, hml, hown, hts, hK, hN, xn, xt, xz, hA⟩ := B
  have hsum : 0 ≤ ofZ u 0 7 + ofZ u 1 7 := by
    obtain ⟨-, -, -, -, -, -, -, -, a1, a2⟩ := of_facts h (f := 0) (Or.inl rfl)
    obtain ⟨-, -, -, -, -, -, -, -, b1, b2⟩ := of_facts h (f := 1) (Or.inr rfl)
    have e0 : (0 : Int32).toInt = 0 := rfl
    have e2 : (2 : Int32).toInt = 2 := rfl
    rw [zi_le] at *
    rw [zi_add (by omega) (by omega)]
    omega
  refine lv_aload_n hx hb dL_law_98 rfl (lv_at hl 7 rfl) ?_
  refine lv_iconst (v := 0) hx hb dL_law_99 (by decide) ?_
  refine lv_bipush (v := 7) hx hb dL_law_100 (by decide) ?_
  have hF1 := zF hD hS hA
  refine va_calli (va_runV (As := [.int 0, .int 7]) (rest := []) ⟨hx, hb, hml, hown, hts⟩ (o_of l dC dI cY Q AD AE HQ u 0 7 hst (show X7_of_x 0 7 = 0 by decide) H.size) (cwV 2 hts gL_law_X7_of rfl rfl rfl (by decide +kernel) ⟨Nat.le_of_ble_eq_true rfl, Nat.le_of_ble_eq_true rfl⟩) ⟨blindX, va_recv hK hP (ci := 7) (q0 := 0) rfl rfl, fun U hU hW => ⟨rfl, xPre_of hP hK hN hD xn xt xz hS hF1 U hU hW⟩⟩ rfl rfl hl.1 rfl (lv_room (Nat.le_of_ble_eq_true rfl)) dL_law_102 ⟨by show C + 0 + 2 ≤ 600074; omega, by show S9 + 0 + 12 ≤ 7301550; omega⟩) hS (fun q _ h => hF1 q h) hF1 (fun r1 w1 t1 H1 locs1 ht1 hvm hq1 hB1 hz9 hk9 hS1 => ?_)
  clear hvm hz9 hk9
  obtain ⟨er1, ev1⟩ := hq1
  rw [ev1] at hB1
  subst er1
  obtain ⟨hP1, hD1⟩ := hB1
  rw [ht1] at hP1
  replace hD1 := hD1.weaken (fun _ q _ h => hF1 q.1 h)
  clear hF1 ht1 hP hD hS
  refine lv_aload_n hx hb dL_law_105 rfl (lv_at hl 7 rfl) ?_
  refine lv_iconst (v := 1) hx hb dL_law_106 (by decide) ?_
  refine lv_bipush (v := 7) hx hb dL_law_107 (by decide) ?_
  have hF2 := zF hD1 hS1 hA
  refine va_calli (va_runV (As := [.int 1, .int 7]) (rest := [.int (ofZ u 0 7)]) ⟨hx, hb, hml, hown, hts⟩ (o_of l dC dI cY Q AD AE HQ u 1 7 hst (show X7_of_x 1 7 = 0 by decide) H1.size) (cwV 2 hts gL_law_X7_of rfl rfl rfl (by decide +kernel) ⟨Nat.le_of_ble_eq_true rfl, Nat.le_of_ble_eq_true rfl⟩) ⟨blindX, va_recv hK hP1 (ci := 7) (q0 := 0) rfl rfl, fun U hU hW => ⟨rfl, xPre_of hP1 hK hN hD1 xn xt xz hS1 hF2 U hU hW⟩⟩ rfl rfl hl.1 rfl (lv_room (Nat.le_of_ble_eq_true rfl)) dL_law_109 ⟨by show C + 2 + 2 ≤ 600074; omega, by show S9 + 12 + 12 ≤ 7301550; omega⟩) hS1 (fun q _ h => hF2 q h) hF2 (fun r2 w2 t2 H2 locs2 ht2 hvm hq2 hB2 hz9 hk9 hS2 => ?_)
  clear hvm hz9 hk9
  obtain ⟨er2, ev2⟩ := hq2
  rw [ev2] at hB2
  subst er2
  obtain ⟨hP2, hD2⟩ := hB2
  rw [ht2] at hP2
  replace hD2 := hD2.weaken (fun _ q _ h => hF2 q.1 h)
  clear hF2 ht2 hP1 hD1 hS1
  refine lv_iadd hx hb dL_law_112 ?_
  refine lv_if_lt (tgt := 163) hx hb dL_law_113 (by decide) (fun c9 => absurd c9 (Int32.not_lt.mpr hsum)) (fun _ => ?_)
  refine lv_aload_n hx hb dL_law_116 rfl (lv_at hl 7 rfl) ?_
  refine lv_bipush (v := 20) hx hb dL_law_117 (by decide) ?_
  refine lv_iconst (v := 2) hx hb dL_law_119 (by decide) ?_
  refine lv_iload hx hb dL_law_120 (lv_at hl 0 rfl) ?_
  refine lv_sipush (v := 141) hx hb dL_law_122 (by decide) ?_
  refine lv_irem hx hb dL_law_125 (by decide) ?_
  refine lv_topi (fun x1 ex1 => ?_)
  obtain rfl : x1 = (nI (v % 141)) := ex1.trans (pk_rem (a := v) (d := 141) (by omega) (by omega) (by omega))
  refine lv_imul hx hb dL_law_126 ?_
  refine lv_topi (fun x2 ex2 => ?_)
  obtain rfl : x2 = (nI (2 * (v % 141))) := ex2.trans (pk_mul 2 (v % 141))
  refine lv_iadd hx hb dL_law_127 ?_
  refine lv_topi (fun x3 ex3 => ?_)
  obtain rfl : x3 = (nI (20 + 2 * (v % 141))) := ex3.trans (nI_add 20 (2 * (v % 141)))
  have hF3 := zF hD2 hS2 hA
  refine va_calli (va_runV (As := [.int (nI (20 + 2 * (v % 141)))]) (rest := []) ⟨hx, hb, hml, hown, hts⟩ (o_begin l dC dI cY Q AD AE HQ (h.bg h0) hT (show 20 ≤ 20 + 2 * (v % 141) by omega) (by omega) (by omega) hst H2.size) (cwV 1 hts gL_law_X7_begin rfl rfl rfl (by decide +kernel) ⟨Nat.le_of_ble_eq_true rfl, Nat.le_of_ble_eq_true rfl⟩) ⟨blindX, va_recv hK hP2 (ci := 7) (q0 := 0) rfl rfl, fun U hU hW => ⟨rfl, xPre_of hP2 hK hN hD2 xn xt xz hS2 hF3 U hU hW⟩⟩ rfl rfl hl.1 rfl (lv_room (Nat.le_of_ble_eq_true rfl)) dL_law_128 ⟨by show C + 4 + 2 ≤ 600074; omega, by show S9 + 24 + 12 ≤ 7301550; omega⟩) hS2 (fun q _ h => hF3 q h) hF3 (fun r3 w3 t3 H3 locs3 ht3 hvm hq3 hB3 hz9 hk9 hS3 => ?_)
  clear hvm hz9 hk9
  obtain ⟨-, ⟨b9, hb1, hb2, er3⟩, hr3, go3, lf3, rt3⟩ := hq3
  subst er3
  obtain ⟨hP3, hD3⟩ := hB3
  rw [ht3] at hP3
  replace hD3 := hD3.weaken (fun _ q _ h => hF3 q.1 h)
  clear hF3 ht3 hP2 hD2 hS2
  refine lv_iconst (v := 1) hx hb dL_law_131 (by decide) ?_
  refine lv_icmp_lt (tgt := 163) hx hb dL_law_132 (by decide) (fun c9 => absurd c9 (show ¬ nI b9 < 1 from nI_nlt (b := 1) hb1 (by omega))) (fun _ => ?_)
  refine lv_aload_n hx hb dL_law_135 rfl (lv_at hl 7 rfl) ?_
  refine lv_iconst (v := 0) hx hb dL_law_136 (by decide) ?_
  refine lv_iconst (v := 1) hx hb dL_law_137 (by decide) ?_
  have hF4 := zF hD3 hS3 hA
  refine va_calli (va_runV (As := [.int 0, .int 1]) (rest := []) ⟨hx, hb, hml, hown, hts⟩ (o_of l dC dI cY Q AD AE HQ w3 0 1 hst (show X7_of_x 0 1 = 0 by decide) H3.size) (cwV 2 hts gL_law_X7_of rfl rfl rfl (by decide +kernel) ⟨Nat.le_of_ble_eq_true rfl, Nat.le_of_ble_eq_true rfl⟩) ⟨blindX, va_recv hK hP3 (ci := 7) (q0 := 0) rfl rfl, fun U hU hW => ⟨rfl, xPre_of hP3 hK hN hD3 xn xt xz hS3 hF4 U hU hW⟩⟩ rfl rfl hl.1 rfl (lv_room (Nat.le_of_ble_eq_true rfl)) dL_law_138 ⟨by show C + 6 + 2 ≤ 600074; omega, by show S9 + 36 + 12 ≤ 7301550; omega⟩) hS3 (fun q _ h => hF4 q h) hF4 (fun r4 w4 t4 H4 locs4 ht4 hvm hq4 hB4 hz9 hk9 hS4 => ?_)
  clear hvm hz9 hk9
  obtain ⟨er4, ev4⟩ := hq4
  rw [ev4] at hB4
  subst er4
  obtain ⟨hP4, hD4⟩ := hB4
  rw [ht4] at hP4
  replace hD4 := hD4.weaken (fun _ q _ h => hF4 q.1 h)
  clear hF4 ht4 hP3 hD3 hS3
  refine lv_sipush (v := 1000) hx hb dL_law_141 (by decide) ?_
  refine lv_icmp_ne (tgt := 163) hx hb dL_law_144 (by decide) (fun c9 => absurd c9 (fun q => q lf3)) (fun _ => ?_)
  refine lv_aload_n hx hb dL_law_147 rfl (lv_at hl 7 rfl) ?_
  refine lv_iconst (v := 1) hx hb dL_law_148 (by decide) ?_
  refine lv_iconst (v := 1) hx hb dL_law_149 (by decide) ?_
  have hF5 := zF hD4 hS4 hA
  refine va_calli (va_runV (As := [.int 1, .int 1]) (rest := []) ⟨hx, hb, hml, hown, hts⟩ (o_of l dC dI cY Q AD AE HQ w3 1 1 hst (show X7_of_x 1 1 = 0 by decide) H4.size) (cwV 2 hts gL_law_X7_of rfl rfl rfl (by decide +kernel) ⟨Nat.le_of_ble_eq_true rfl, Nat.le_of_ble_eq_true rfl⟩) ⟨blindX, va_recv hK hP4 (ci := 7) (q0 := 0) rfl rfl, fun U hU hW => ⟨rfl, xPre_of hP4 hK hN hD4 xn xt xz hS4 hF5 U hU hW⟩⟩ rfl rfl hl.1 rfl (lv_room (Nat.le_of_ble_eq_true rfl)) dL_law_150 ⟨by show C + 8 + 2 ≤ 600074; omega, by show S9 + 48 + 12 ≤ 7301550; omega⟩) hS4 (fun q _ h => hF5 q h) hF5 (fun r5 w5 t5 H5 locs5 ht5 hvm hq5 hB5 hz9 hk9 hS5 => ?_)
  clear hvm hz9 hk9
  obtain ⟨er5, ev5⟩ := hq5
  rw [ev5] at hB5
  subst er5
  obtain ⟨hP5, hD5⟩ := hB5
  rw [ht5] at hP5
  replace hD5 := hD5.weaken (fun _ q _ h => hF5 q.1 h)
  clear hF5 ht5 hP4 hD4 hS4
  refine lv_sipush (v := 1000) hx hb dL_law_153 (by decide) ?_
  refine lv_icmp_ne (tgt := 163) hx hb dL_law_156 (by decide) (fun c9 => absurd c9 (fun q => q rt3)) (fun _ => ?_)
  refine lv_iconst (v := 1) hx hb dL_law_159 (by decide) ?_
  refine lv_goto (tgt := 164) hx hb dL_law_160 (by decide) ?_
  refine lv_istore_n (lv' := [(3, .int 1), (8, .int (nI v)), (7, .int (nI i)), (4, .int (nI fr)), (5, .int (nI ea)), (6, .int pl), (0, .ref b), (1, .ref (Q 0)), (2, .int (nI n))]) hx hb dL_law_164 rfl hl (by decide) rfl (fun ls hl => ?_)
  refine lv_iconst (v := 0) hx hb dL_law_165 (by decide) ?_
  refine lv_istore (lv' := [(4, .int 0), (3, .int 1), (8, .int (nI v)), (7, .int (nI i)), (5, .int (nI ea)), (6, .int pl), (0, .ref b), (1, .ref (Q 0)), (2, .int (nI n))]) hx hb dL_law_166 hl (by decide) rfl (fun ls hl => ?_)
  refine lv_iconst (v := 0) hx hb dL_law_168 (by decide) ?_
  refine lv_istore (lv' := [(5, .int 0), (4, .int 0), (3, .int 1), (8, .int (nI v)), (7, .int (nI i)), (6, .int pl), (0, .ref b), (1, .ref (Q 0)), (2, .int (nI n))]) hx hb dL_law_169 hl (by decide) rfl (fun ls hl => ?_)
  refine lv_aload_n hx hb dL_law_171 rfl (lv_at hl 7 rfl) ?_
  refine lv_iconst (v := 0) hx hb dL_law_172 (by decide) ?_
  refine lv_iconst (v := 0) hx hb dL_law_173 (by decide) ?_
  have hF6 := zF hD5 hS5 hA
  refine va_calli (va_runV (As := [.int 0, .int 0]) (rest := []) ⟨hx, hb, hml, hown, hts⟩ (o_of l dC dI cY Q AD AE HQ w3 0 0 hst (show X7_of_x 0 0 = 0 by decide) H5.size) (cwV 2 hts gL_law_X7_of rfl rfl rfl (by decide +kernel) ⟨Nat.le_of_ble_eq_true rfl, Nat.le_of_ble_eq_true rfl⟩) ⟨blindX, va_recv hK hP5 (ci := 7) (q0 := 0) rfl rfl, fun U hU hW => ⟨rfl, xPre_of hP5 hK hN hD5 xn xt xz hS5 hF6 U hU hW⟩⟩ rfl rfl hl.1 rfl (lv_room (Nat.le_of_ble_eq_true rfl)) dL_law_174 ⟨by show C + 10 + 2 ≤ 600074; omega, by show S9 + 60 + 12 ≤ 7301550; omega⟩) hS5 (fun q _ h => hF6 q h) hF6 (fun r6 w6 t6 H6 locs6 ht6 hvm hq6 hB6 hz9 hk9 hS6 => ?_)
  clear hvm hz9 hk9
  obtain ⟨er6, ev6⟩ := hq6
  rw [ev6] at hB6
  subst er6
  obtain ⟨hP6, hD6⟩ := hB6
  rw [ht6] at hP6
  replace hD6 := hD6.weaken (fun _ q _ h => hF6 q.1 h)
  clear hF6 ht6 hP5 hD5 hS5
  refine lv_istore (lv' := [(6, .int (ofZ w3 0 0)), (5, .int 0), (4, .int 0), (3, .int 1), (8, .int (nI v)), (7, .int (nI i)), (0, .ref b), (1, .ref (Q 0)), (2, .int (nI n))]) hx hb dL_law_177 hl (by decide) rfl (fun ls hl => ?_)
  refine lv_goto (tgt := 298) hx hb dL_law_179 (by decide) ?_
  refine W.widen (k := (C + 12)) (n := (S9 + 72)) (by omega) (by omega) ?_
  have hl := lv_sub hl (l' := [(7, .int (nI i)), (3, .int 1), (4, .int (nI 0)), (5, .int (nI 0)), (6, .int (ofZ w3 0 0)), (0, .ref b), (1, .ref (Q 0)), (2, .int (nI n))]) [5, 3, 2, 1, 0, 6, 7, 8] rfl
  exact kk hr3 go3 (tell_of hr3 (w := 0) (by decide)).symm hP6 hD6 hS6 hl
