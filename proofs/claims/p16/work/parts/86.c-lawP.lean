/-! the law, a piece of its walk -/
set_option maxHeartbeats 8000000 in
set_option maxRecDepth 100000 in
theorem law_P {p : Program} {l : Launch} {e : Env} {s : State} {m : MethodId} {args : Array Value} {below : List Frame} {meth : Method} {c : Code} {Qz : State → Prop} {dC : Nat → ClassId} {dI : Nat → Nat → Nat} {cY : Nat → ClassId} {Q AD AE HQ : Nat → Nat} {A : Nat → Prop} {H : Heap} {locs : List Loc} {ls : Array Slot} {n fr T ea i v C S9 : Nat} {pl : Int32} {u : zS} {b L : Nat} {xs : Nat → Int32} (hL : L ≤ 260) (hX : va_X b L xs s s.heap) (hbl : b < s.heap.size) (hbA : ¬ A b) (hst : l.stackTraces = false) (B : bdF p s m c args cL_law 12 wsL_law dC dI cY A) (h : rdZ n fr T u) (hT : T ≤ 1000) (h0 : ¬ u.1 0 = 0) (hv : v < 2 ^ 31) (hea : ea ≤ fr) (hpl : 1 ≤ ea → pl = tellZ u ea 0 (nI 0)) (hC : C + 10 ≤ 600000) (hS9 : S9 + 60 ≤ 7301000) (hP : va_P (dC, dI) vwCl (obW cY Q AD AE HQ u) H) (hD : va_D A (obW cY Q AD AE HQ u)) (hS : va_S A s.heap H locs) (hl : lv_has ls 12 [(8, .int (nI v)), (7, .int (nI i)), (3, .int 1), (4, .int (nI fr)), (5, .int (nI ea)), (6, .int pl), (0, .ref b), (1, .ref (Q 0)), (2, .int (nI n))]) (kk : ∀ {w : zS} {pl1 : Int32} {f1 ea1 : Nat}, rdZ n f1 T w → ea1 ≤ f1 → 1 ≤ ea1 → pl1 = tellZ w ea1 0 (nI 0) → ∀ {H : Heap} {locs : List Loc} {ls : Array Slot}, va_P (dC, dI) vwCl (obW cY Q AD AE HQ w) H → va_D A (obW cY Q AD AE HQ w) → va_S A s.heap H locs → lv_has ls 12 [(7, .int (nI i)), (3, .int 1), (4, .int (nI f1)), (5, .int (nI ea1)), (6, .int pl1), (0, .ref b), (1, .ref (Q 0)), (2, .int (nI n))] → W p l e room_1 s m args below meth c H locs (C + 10) (S9 + 60) Qz (F0 m 298 ls [])) : W p l e room_1 s m args below meth c H locs C S9 Qz (F0 m 182 ls []) := by
  obtain ⟨hx, hb, hml, hown, hts, hK, hN, xn, xt, xz, hA⟩ := B
  obtain ⟨⟨hn1, -, hM6, -⟩, -⟩ := id h
  have hn6 := hM6.1
  have hfr6 := (go_facts h).2.2
  refine lv_aload_n hx hb dL_law_182 rfl (lv_at hl 7 rfl) ?_
  refine lv_iconst (v := 1) hx hb dL_law_183 (by decide) ?_
  refine lv_iconst (v := 1) hx hb dL_law_184 (by decide) ?_
  have hF1 := zF hD hS hA
  refine va_calli (va_runV (As := [.int 1, .int 1]) (rest := []) ⟨hx, hb, hml, hown, hts⟩ (o_of l dC dI cY Q AD AE HQ u 1 1 hst (show X7_of_x 1 1 = 0 by decide) H.size) (cwV 2 hts gL_law_X7_of rfl rfl rfl (by decide +kernel) ⟨Nat.le_of_ble_eq_true rfl, Nat.le_of_ble_eq_true rfl⟩) ⟨blindX, va_recv hK hP (ci := 7) (q0 := 0) rfl rfl, fun U hU hW => ⟨rfl, xPre_of hP hK hN hD xn xt xz hS hF1 U hU hW⟩⟩ rfl rfl hl.1 rfl (lv_room (Nat.le_of_ble_eq_true rfl)) dL_law_185 ⟨by show C + 0 + 2 ≤ 600074; omega, by show S9 + 0 + 12 ≤ 7301550; omega⟩) hS (fun q _ h => hF1 q h) hF1 (fun r1 w1 t1 H1 locs1 ht1 hvm hq1 hB1 hz9 hk9 hS1 => ?_)
  clear hvm hz9 hk9
  obtain ⟨er1, ev1⟩ := hq1
  rw [ev1] at hB1
  subst er1
  obtain ⟨hP1, hD1⟩ := hB1
  rw [ht1] at hP1
  replace hD1 := hD1.weaken (fun _ q _ h => hF1 q.1 h)
  clear hF1 ht1 hP hD hS
  refine lv_istore (lv' := [(9, .int (ofZ u 1 1)), (8, .int (nI v)), (7, .int (nI i)), (3, .int 1), (4, .int (nI fr)), (5, .int (nI ea)), (6, .int pl), (0, .ref b), (1, .ref (Q 0)), (2, .int (nI n))]) hx hb dL_law_188 hl (by decide) rfl (fun ls hl => ?_)
  refine lv_iconst (v := 1) hx hb dL_law_190 (by decide) ?_
  refine lv_iload hx hb dL_law_191 (lv_at hl 1 rfl) ?_
  refine lv_bipush (v := 20) hx hb dL_law_193 (by decide) ?_
  refine lv_irem hx hb dL_law_195 (by decide) ?_
  refine lv_topi (fun x1 ex1 => ?_)
  obtain rfl : x1 = (nI (v % 20)) := ex1.trans (pk_rem (a := v) (d := 20) (by omega) (by omega) (by omega))
  refine lv_iadd hx hb dL_law_196 ?_
  refine lv_topi (fun x2 ex2 => ?_)
  obtain rfl : x2 = (nI (1 + v % 20)) := ex2.trans (nI_add 1 (v % 20))
  refine lv_istore (lv' := [(10, .int (nI (1 + v % 20))), (9, .int (ofZ u 1 1)), (8, .int (nI v)), (7, .int (nI i)), (3, .int 1), (4, .int (nI fr)), (5, .int (nI ea)), (6, .int pl), (0, .ref b), (1, .ref (Q 0)), (2, .int (nI n))]) hx hb dL_law_197 hl (by decide) rfl (fun ls hl => ?_)
  refine lv_aload_n hx hb dL_law_199 rfl (lv_at hl 9 rfl) ?_
  refine lv_iload hx hb dL_law_200 (lv_at hl 0 rfl) ?_
  refine lv_iload hx hb dL_law_202 (lv_at hl 2 rfl) ?_
  refine lv_bipush (v := 32) hx hb dL_law_204 (by decide) ?_
  refine lv_idiv hx hb dL_law_206 (by decide) ?_
  refine lv_topi (fun x3 ex3 => ?_)
  obtain rfl : x3 = (nI (v / 32)) := ex3.trans (pk_div (a := v) (d := 32) (by omega) (by omega) (by omega))
  refine lv_iload_n hx hb dL_law_207 rfl (lv_at hl 10 rfl) ?_
  refine vp_callSi (W.runS (As := [.int (nI (v / 32)), .int (nI n)]) (rest := [.int (nI (1 + v % 20)), .ref (Q 0)]) ⟨hx, hb, hml, hown, hts⟩ (c_L_input l (v := (v / 32)) (n := n) (by omega) hn1 hn6) (va_cwS 2 hts gL_law_L_input rfl rfl rfl (by decide +kernel) ⟨Nat.le_of_ble_eq_true rfl, Nat.le_of_ble_eq_true rfl⟩) ⟨blindU, fun U hU hW => ⟨rfl, trivial⟩⟩ rfl rfl hl.1 rfl (lv_room (Nat.le_of_ble_eq_true rfl)) dL_law_208 ⟨by show C + 2 + 0 ≤ 600074; omega, by show S9 + 12 + 0 ≤ 7301550; omega⟩) (fun one hone => ?_)
  refine lv_iload hx hb dL_law_211 (lv_at hl 2 rfl) ?_
  refine lv_sipush (v := 1024) hx hb dL_law_213 (by decide) ?_
  refine lv_idiv hx hb dL_law_216 (by decide) ?_
  refine lv_topi (fun x4 ex4 => ?_)
  obtain rfl : x4 = (nI (v / 1024)) := ex4.trans (pk_div (a := v) (d := 1024) (by omega) (by omega) (by omega))
  refine lv_iload_n hx hb dL_law_217 rfl (lv_at hl 10 rfl) ?_
  refine vp_callSi (W.runS (As := [.int (nI (v / 1024)), .int (nI n)]) (rest := [.int one, .int (nI (1 + v % 20)), .ref (Q 0)]) ⟨hx, hb, hml, hown, hts⟩ (c_L_input l (v := (v / 1024)) (n := n) (by omega) hn1 hn6) (va_cwS 2 hts gL_law_L_input rfl rfl rfl (by decide +kernel) ⟨Nat.le_of_ble_eq_true rfl, Nat.le_of_ble_eq_true rfl⟩) ⟨blindU, fun U hU hW => ⟨rfl, trivial⟩⟩ rfl rfl hl.1 rfl (lv_room (Nat.le_of_ble_eq_true rfl)) dL_law_218 ⟨by show C + 2 + 0 ≤ 600074; omega, by show S9 + 12 + 0 ≤ 7301550; omega⟩) (fun two htwo => ?_)
  have hF2 := zF hD1 hS1 hA
  refine va_calli (va_runV (As := [.int (nI (1 + v % 20)), .int one, .int two]) (rest := []) ⟨hx, hb, hml, hown, hts⟩ (o_play l dC dI cY Q AD AE HQ h h0 (show 1 ≤ 1 + v % 20 by omega) (by omega) hone htwo hst H1.size) (cwV 3 hts gL_law_X7_play rfl rfl rfl (by decide +kernel) ⟨Nat.le_of_ble_eq_true rfl, Nat.le_of_ble_eq_true rfl⟩) ⟨blindX, va_recv hK hP1 (ci := 7) (q0 := 0) rfl rfl, fun U hU hW => ⟨rfl, xPre_of hP1 hK hN hD1 xn xt xz hS1 hF2 U hU hW⟩⟩ rfl rfl hl.1 rfl (lv_room (Nat.le_of_ble_eq_true rfl)) dL_law_221 ⟨by show C + 2 + 4 ≤ 600074; omega, by show S9 + 12 + 24 ≤ 7301550; omega⟩) hS1 (fun q _ h => hF2 q h) hF2 (fun r2 w2 t2 H2 locs2 ht2 hvm hq2 hB2 hz9 hk9 hS2 => ?_)
  clear hvm hz9 hk9
  obtain ⟨f1, er2, lt2, le2, hr2, en2, lf2, rp2⟩ := hq2
  subst er2
  obtain ⟨hP2, hD2⟩ := hB2
  rw [ht2] at hP2
  replace hD2 := hD2.weaken (fun _ q _ h => hF2 q.1 h)
  clear hF2 ht2 hP1 hD1 hS1
  refine lv_istore (lv' := [(11, .int (nI f1)), (10, .int (nI (1 + v % 20))), (9, .int (ofZ u 1 1)), (8, .int (nI v)), (7, .int (nI i)), (3, .int 1), (4, .int (nI fr)), (5, .int (nI ea)), (6, .int pl), (0, .ref b), (1, .ref (Q 0)), (2, .int (nI n))]) hx hb dL_law_224 hl (by decide) rfl (fun ls hl => ?_)
  have hf16 := (go_facts hr2).2.2
  by_cases hend : f1 = fr + (1 + v % 20)
  · refine lv_iload hx hb dL_law_226 (lv_at hl 0 rfl) ?_
    refine lv_iload hx hb dL_law_228 (lv_at hl 6 rfl) ?_
    refine lv_icmp_le (tgt := 275) hx hb dL_law_230 (by decide) (fun c9 => absurd c9 (show ¬ nI f1 ≤ nI fr from nI_ge lt2 (by omega))) (fun _ => ?_)
    refine lv_iload hx hb dL_law_233 (lv_at hl 0 rfl) ?_
    refine lv_iload hx hb dL_law_235 (lv_at hl 6 rfl) ?_
    refine lv_iload hx hb dL_law_237 (lv_at hl 1 rfl) ?_
    refine lv_iadd hx hb dL_law_239 ?_
    refine lv_topi (fun x5 ex5 => ?_)
    obtain rfl : x5 = (nI (fr + (1 + v % 20))) := ex5.trans (nI_add fr (1 + v % 20))
    refine lv_icmp_gt (tgt := 275) hx hb dL_law_240 (by decide) (fun c9 => absurd c9 (show ¬ nI (fr + (1 + v % 20)) < nI f1 from nI_nlt le2 (by omega))) (fun _ => ?_)
    refine lv_iload hx hb dL_law_243 (lv_at hl 0 rfl) ?_
    refine lv_iload hx hb dL_law_245 (lv_at hl 6 rfl) ?_
    refine lv_iload hx hb dL_law_247 (lv_at hl 1 rfl) ?_
    refine lv_iadd hx hb dL_law_249 ?_
    refine lv_topi (fun x6 ex6 => ?_)
    obtain rfl : x6 = (nI (fr + (1 + v % 20))) := ex6.trans (nI_add fr (1 + v % 20))
    refine lv_icmp_eq (tgt := 260) hx hb dL_law_250 (by decide) (fun _ => ?_) (fun c9 => absurd (by rw [hend]) c9)
    refine lv_aload_n hx hb dL_law_260 rfl (lv_at hl 10 rfl) ?_
    refine lv_iconst (v := 1) hx hb dL_law_261 (by decide) ?_
    refine lv_iconst (v := 1) hx hb dL_law_262 (by decide) ?_
    have hF3 := zF hD2 hS2 hA
    refine va_calli (va_runV (As := [.int 1, .int 1]) (rest := []) ⟨hx, hb, hml, hown, hts⟩ (o_of l dC dI cY Q AD AE HQ w2 1 1 hst (show X7_of_x 1 1 = 0 by decide) H2.size) (cwV 2 hts gL_law_X7_of rfl rfl rfl (by decide +kernel) ⟨Nat.le_of_ble_eq_true rfl, Nat.le_of_ble_eq_true rfl⟩) ⟨blindX, va_recv hK hP2 (ci := 7) (q0 := 0) rfl rfl, fun U hU hW => ⟨rfl, xPre_of hP2 hK hN hD2 xn xt xz hS2 hF3 U hU hW⟩⟩ rfl rfl hl.1 rfl (lv_room (Nat.le_of_ble_eq_true rfl)) dL_law_263 ⟨by show C + 6 + 2 ≤ 600074; omega, by show S9 + 36 + 12 ≤ 7301550; omega⟩) hS2 (fun q _ h => hF3 q h) hF3 (fun r3 w3 t3 H3 locs3 ht3 hvm hq3 hB3 hz9 hk9 hS3 => ?_)
    clear hvm hz9 hk9
    obtain ⟨er3, ev3⟩ := hq3
    rw [ev3] at hB3
    subst er3
    obtain ⟨hP3, hD3⟩ := hB3
    rw [ht3] at hP3
    replace hD3 := hD3.weaken (fun _ q _ h => hF3 q.1 h)
    clear hF3 ht3 hP2 hD2 hS2
    refine lv_iload hx hb dL_law_266 (lv_at hl 2 rfl) ?_
    refine lv_icmp_gt (tgt := 275) hx hb dL_law_268 (by decide) (fun c9 => absurd c9 (Int32.not_lt.mpr lf2)) (fun _ => ?_)
    refine lv_iconst (v := 1) hx hb dL_law_271 (by decide) ?_
    refine lv_goto (tgt := 276) hx hb dL_law_272 (by decide) ?_
    refine lv_istore_n (lv' := [(3, .int 1), (11, .int (nI f1)), (10, .int (nI (1 + v % 20))), (9, .int (ofZ u 1 1)), (8, .int (nI v)), (7, .int (nI i)), (4, .int (nI fr)), (5, .int (nI ea)), (6, .int pl), (0, .ref b), (1, .ref (Q 0)), (2, .int (nI n))]) hx hb dL_law_276 rfl hl (by decide) rfl (fun ls hl => ?_)
    refine lv_iload hx hb dL_law_277 (lv_at hl 1 rfl) ?_
    refine lv_istore (lv' := [(4, .int (nI f1)), (3, .int 1), (11, .int (nI f1)), (10, .int (nI (1 + v % 20))), (9, .int (ofZ u 1 1)), (8, .int (nI v)), (7, .int (nI i)), (5, .int (nI ea)), (6, .int pl), (0, .ref b), (1, .ref (Q 0)), (2, .int (nI n))]) hx hb dL_law_279 hl (by decide) rfl (fun ls hl => ?_)
    refine lv_iload hx hb dL_law_281 (lv_at hl 7 rfl) ?_
    by_cases hea0 : ea = 0
    · refine lv_if_ne (tgt := 298) hx hb dL_law_283 (by decide) (fun c9 => absurd c9 (fun q => q (by rw [hea0]; rfl))) (fun _ => ?_)
      refine lv_iload hx hb dL_law_286 (lv_at hl 2 rfl) ?_
      refine lv_istore (lv' := [(5, .int (nI f1)), (4, .int (nI f1)), (3, .int 1), (11, .int (nI f1)), (10, .int (nI (1 + v % 20))), (9, .int (ofZ u 1 1)), (8, .int (nI v)), (7, .int (nI i)), (6, .int pl), (0, .ref b), (1, .ref (Q 0)), (2, .int (nI n))]) hx hb dL_law_288 hl (by decide) rfl (fun ls hl => ?_)
      refine lv_aload_n hx hb dL_law_290 rfl (lv_at hl 10 rfl) ?_
      refine lv_iconst (v := 0) hx hb dL_law_291 (by decide) ?_
      refine lv_iconst (v := 0) hx hb dL_law_292 (by decide) ?_
      have hF4 := zF hD3 hS3 hA
      refine va_calli (va_runV (As := [.int 0, .int 0]) (rest := []) ⟨hx, hb, hml, hown, hts⟩ (o_of l dC dI cY Q AD AE HQ w2 0 0 hst (show X7_of_x 0 0 = 0 by decide) H3.size) (cwV 2 hts gL_law_X7_of rfl rfl rfl (by decide +kernel) ⟨Nat.le_of_ble_eq_true rfl, Nat.le_of_ble_eq_true rfl⟩) ⟨blindX, va_recv hK hP3 (ci := 7) (q0 := 0) rfl rfl, fun U hU hW => ⟨rfl, xPre_of hP3 hK hN hD3 xn xt xz hS3 hF4 U hU hW⟩⟩ rfl rfl hl.1 rfl (lv_room (Nat.le_of_ble_eq_true rfl)) dL_law_293 ⟨by show C + 8 + 2 ≤ 600074; omega, by show S9 + 48 + 12 ≤ 7301550; omega⟩) hS3 (fun q _ h => hF4 q h) hF4 (fun r4 w4 t4 H4 locs4 ht4 hvm hq4 hB4 hz9 hk9 hS4 => ?_)
      clear hvm hz9 hk9
      obtain ⟨er4, ev4⟩ := hq4
      rw [ev4] at hB4
      subst er4
      obtain ⟨hP4, hD4⟩ := hB4
      rw [ht4] at hP4
      replace hD4 := hD4.weaken (fun _ q _ h => hF4 q.1 h)
      clear hF4 ht4 hP3 hD3 hS3
      refine lv_istore (lv' := [(6, .int (ofZ w2 0 0)), (5, .int (nI f1)), (4, .int (nI f1)), (3, .int 1), (11, .int (nI f1)), (10, .int (nI (1 + v % 20))), (9, .int (ofZ u 1 1)), (8, .int (nI v)), (7, .int (nI i)), (0, .ref b), (1, .ref (Q 0)), (2, .int (nI n))]) hx hb dL_law_296 hl (by decide) rfl (fun ls hl => ?_)
      refine W.widen (k := (C + 10)) (n := (S9 + 60)) (by omega) (by omega) ?_
      have hl := lv_sub hl (l' := [(7, .int (nI i)), (3, .int 1), (4, .int (nI f1)), (5, .int (nI f1)), (6, .int (ofZ w2 0 0)), (0, .ref b), (1, .ref (Q 0)), (2, .int (nI n))]) [8, 3, 2, 1, 0, 9, 10, 11] rfl
      exact kk hr2 (Nat.le_refl _) (by omega) (tell_of hr2 (w := 0) (by decide)).symm hP4 hD4 hS4 hl
    · refine lv_if_ne (tgt := 298) hx hb dL_law_283 (by decide) (fun _ => ?_) (fun c9 => absurd c9 (nI_ne0 (by omega) (by omega)))
      refine W.widen (k := (C + 10)) (n := (S9 + 60)) (by omega) (by omega) ?_
      have hl := lv_sub hl (l' := [(7, .int (nI i)), (3, .int 1), (4, .int (nI f1)), (5, .int (nI ea)), (6, .int pl), (0, .ref b), (1, .ref (Q 0)), (2, .int (nI n))]) [6, 1, 0, 7, 8, 9, 10, 11] rfl
      exact kk hr2 (show ea ≤ f1 by omega) (by omega) ((hpl (by omega)).trans (by unfold tellZ; rw [rp2 ea hea])) hP3 hD3 hS3 hl
  · have hz : w2.1 0 = 0 := en2.resolve_left hend
    refine lv_iload hx hb dL_law_226 (lv_at hl 0 rfl) ?_
    refine lv_iload hx hb dL_law_228 (lv_at hl 6 rfl) ?_
    refine lv_icmp_le (tgt := 275) hx hb dL_law_230 (by decide) (fun c9 => absurd c9 (show ¬ nI f1 ≤ nI fr from nI_ge lt2 (by omega))) (fun _ => ?_)
    refine lv_iload hx hb dL_law_233 (lv_at hl 0 rfl) ?_
    refine lv_iload hx hb dL_law_235 (lv_at hl 6 rfl) ?_
    refine lv_iload hx hb dL_law_237 (lv_at hl 1 rfl) ?_
    refine lv_iadd hx hb dL_law_239 ?_
    refine lv_topi (fun x5 ex5 => ?_)
    obtain rfl : x5 = (nI (fr + (1 + v % 20))) := ex5.trans (nI_add fr (1 + v % 20))
    refine lv_icmp_gt (tgt := 275) hx hb dL_law_240 (by decide) (fun c9 => absurd c9 (show ¬ nI (fr + (1 + v % 20)) < nI f1 from nI_nlt le2 (by omega))) (fun _ => ?_)
    refine lv_iload hx hb dL_law_243 (lv_at hl 0 rfl) ?_
    refine lv_iload hx hb dL_law_245 (lv_at hl 6 rfl) ?_
    refine lv_iload hx hb dL_law_247 (lv_at hl 1 rfl) ?_
    refine lv_iadd hx hb dL_law_249 ?_
    refine lv_topi (fun x6 ex6 => ?_)
    obtain rfl : x6 = (nI (fr + (1 + v % 20))) := ex6.trans (nI_add fr (1 + v % 20))
    refine lv_icmp_eq (tgt := 260) hx hb dL_law_250 (by decide) (fun c9 => absurd c9 (fun q => hend ((nI_eq (by omega) (by omega)).mp q))) (fun _ => ?_)
    refine lv_aload_n hx hb dL_law_253 rfl (lv_at hl 10 rfl) ?_
    have hF3 := zF hD2 hS2 hA
    refine va_calli (va_runV (As := []) (rest := []) ⟨hx, hb, hml, hown, hts⟩ (o_goesOn l dC dI cY Q AD AE HQ w2 (go_facts hr2).1 H2.size) (cwV 0 hts gL_law_X7_goesOn rfl rfl rfl (by decide +kernel) ⟨Nat.le_of_ble_eq_true rfl, Nat.le_of_ble_eq_true rfl⟩) ⟨blindX, va_recv hK hP2 (ci := 7) (q0 := 0) rfl rfl, fun U hU hW => ⟨rfl, xPre_of hP2 hK hN hD2 xn xt xz hS2 hF3 U hU hW⟩⟩ rfl rfl hl.1 rfl (lv_room (Nat.le_of_ble_eq_true rfl)) dL_law_254 ⟨by show C + 6 + 0 ≤ 600074; omega, by show S9 + 36 + 0 ≤ 7301550; omega⟩) hS2 (fun q _ h => hF3 q h) hF3 (fun r3 w3 t3 H3 locs3 ht3 hvm hq3 hB3 hz9 hk9 hS3 => ?_)
    clear hvm hz9 hk9
    obtain ⟨er3, ev3⟩ := hq3
    rw [ev3] at hB3
    subst er3
    obtain ⟨hP3, hD3⟩ := hB3
    rw [ht3] at hP3
    replace hD3 := hD3.weaken (fun _ q _ h => hF3 q.1 h)
    clear hF3 ht3 hP2 hD2 hS2
    refine lv_if_ne (tgt := 275) hx hb dL_law_257 (by decide) (fun c9 => absurd c9 (fun q => q hz)) (fun _ => ?_)
    refine lv_aload_n hx hb dL_law_260 rfl (lv_at hl 10 rfl) ?_
    refine lv_iconst (v := 1) hx hb dL_law_261 (by decide) ?_
    refine lv_iconst (v := 1) hx hb dL_law_262 (by decide) ?_
    have hF4 := zF hD3 hS3 hA
    refine va_calli (va_runV (As := [.int 1, .int 1]) (rest := []) ⟨hx, hb, hml, hown, hts⟩ (o_of l dC dI cY Q AD AE HQ w2 1 1 hst (show X7_of_x 1 1 = 0 by decide) H3.size) (cwV 2 hts gL_law_X7_of rfl rfl rfl (by decide +kernel) ⟨Nat.le_of_ble_eq_true rfl, Nat.le_of_ble_eq_true rfl⟩) ⟨blindX, va_recv hK hP3 (ci := 7) (q0 := 0) rfl rfl, fun U hU hW => ⟨rfl, xPre_of hP3 hK hN hD3 xn xt xz hS3 hF4 U hU hW⟩⟩ rfl rfl hl.1 rfl (lv_room (Nat.le_of_ble_eq_true rfl)) dL_law_263 ⟨by show C + 6 + 2 ≤ 600074; omega, by show S9 + 36 + 12 ≤ 7301550; omega⟩) hS3 (fun q _ h => hF4 q h) hF4 (fun r4 w4 t4 H4 locs4 ht4 hvm hq4 hB4 hz9 hk9 hS4 => ?_)
    clear hvm hz9 hk9
    obtain ⟨er4, ev4⟩ := hq4
    rw [ev4] at hB4
    subst er4
    obtain ⟨hP4, hD4⟩ := hB4
    rw [ht4] at hP4
    replace hD4 := hD4.weaken (fun _ q _ h => hF4 q.1 h)
    clear hF4 ht4 hP3 hD3 hS3
    refine lv_iload hx hb dL_law_266 (lv_at hl 2 rfl) ?_
    refine lv_icmp_gt (tgt := 275) hx hb dL_law_268 (by decide) (fun c9 => absurd c9 (Int32.not_lt.mpr lf2)) (fun _ => ?_)
    refine lv_iconst (v := 1) hx hb dL_law_271 (by decide) ?_
    refine lv_goto (tgt := 276) hx hb dL_law_272 (by decide) ?_
    refine lv_istore_n (lv' := [(3, .int 1), (11, .int (nI f1)), (10, .int (nI (1 + v % 20))), (9, .int (ofZ u 1 1)), (8, .int (nI v)), (7, .int (nI i)), (4, .int (nI fr)), (5, .int (nI ea)), (6, .int pl), (0, .ref b), (1, .ref (Q 0)), (2, .int (nI n))]) hx hb dL_law_276 rfl hl (by decide) rfl (fun ls hl => ?_)
    refine lv_iload hx hb dL_law_277 (lv_at hl 1 rfl) ?_
    refine lv_istore (lv' := [(4, .int (nI f1)), (3, .int 1), (11, .int (nI f1)), (10, .int (nI (1 + v % 20))), (9, .int (ofZ u 1 1)), (8, .int (nI v)), (7, .int (nI i)), (5, .int (nI ea)), (6, .int pl), (0, .ref b), (1, .ref (Q 0)), (2, .int (nI n))]) hx hb dL_law_279 hl (by decide) rfl (fun ls hl => ?_)
    refine lv_iload hx hb dL_law_281 (lv_at hl 7 rfl) ?_
    by_cases hea0 : ea = 0
    · refine lv_if_ne (tgt := 298) hx hb dL_law_283 (by decide) (fun c9 => absurd c9 (fun q => q (by rw [hea0]; rfl))) (fun _ => ?_)
      refine lv_iload hx hb dL_law_286 (lv_at hl 2 rfl) ?_
      refine lv_istore (lv' := [(5, .int (nI f1)), (4, .int (nI f1)), (3, .int 1), (11, .int (nI f1)), (10, .int (nI (1 + v % 20))), (9, .int (ofZ u 1 1)), (8, .int (nI v)), (7, .int (nI i)), (6, .int pl), (0, .ref b), (1, .ref (Q 0)), (2, .int (nI n))]) hx hb dL_law_288 hl (by decide) rfl (fun ls hl => ?_)
      refine lv_aload_n hx hb dL_law_290 rfl (lv_at hl 10 rfl) ?_
      refine lv_iconst (v := 0) hx hb dL_law_291 (by decide) ?_
      refine lv_iconst (v := 0) hx hb dL_law_292 (by decide) ?_
      have hF5 := zF hD4 hS4 hA
      refine va_calli (va_runV (As := [.int 0, .int 0]) (rest := []) ⟨hx, hb, hml, hown, hts⟩ (o_of l dC dI cY Q AD AE HQ w2 0 0 hst (show X7_of_x 0 0 = 0 by decide) H4.size) (cwV 2 hts gL_law_X7_of rfl rfl rfl (by decide +kernel) ⟨Nat.le_of_ble_eq_true rfl, Nat.le_of_ble_eq_true rfl⟩) ⟨blindX, va_recv hK hP4 (ci := 7) (q0 := 0) rfl rfl, fun U hU hW => ⟨rfl, xPre_of hP4 hK hN hD4 xn xt xz hS4 hF5 U hU hW⟩⟩ rfl rfl hl.1 rfl (lv_room (Nat.le_of_ble_eq_true rfl)) dL_law_293 ⟨by show C + 8 + 2 ≤ 600074; omega, by show S9 + 48 + 12 ≤ 7301550; omega⟩) hS4 (fun q _ h => hF5 q h) hF5 (fun r5 w5 t5 H5 locs5 ht5 hvm hq5 hB5 hz9 hk9 hS5 => ?_)
      clear hvm hz9 hk9
      obtain ⟨er5, ev5⟩ := hq5
      rw [ev5] at hB5
      subst er5
      obtain ⟨hP5, hD5⟩ := hB5
      rw [ht5] at hP5
      replace hD5 := hD5.weaken (fun _ q _ h => hF5 q.1 h)
      clear hF5 ht5 hP4 hD4 hS4
      refine lv_istore (lv' := [(6, .int (ofZ w2 0 0)), (5, .int (nI f1)), (4, .int (nI f1)), (3, .int 1), (11, .int (nI f1)), (10, .int (nI (1 + v % 20))), (9, .int (ofZ u 1 1)), (8, .int (nI v)), (7, .int (nI i)), (0, .ref b), (1, .ref (Q 0)), (2, .int (nI n))]) hx hb dL_law_296 hl (by decide) rfl (fun ls hl => ?_)
      refine W.widen (k := (C + 10)) (n := (S9 + 60)) (by omega) (by omega) ?_
      have hl := lv_sub hl (l' := [(7, .int (nI i)), (3, .int 1), (4, .int (nI f1)), (5, .int (nI f1)), (6, .int (ofZ w2 0 0)), (0, .ref b), (1, .ref (Q 0)), (2, .int (nI n))]) [8, 3, 2, 1, 0, 9, 10, 11] rfl
      exact kk hr2 (Nat.le_refl _) (by omega) (tell_of hr2 (w := 0) (by decide)).symm hP5 hD5 hS5 hl
    · refine lv_if_ne (tgt := 298) hx hb dL_law_283 (by decide) (fun _ => ?_) (fun c9 => absurd c9 (nI_ne0 (by omega) (by omega)))
      refine W.widen (k := (C + 10)) (n := (S9 + 60)) (by omega) (by omega) ?_
      have hl := lv_sub hl (l' := [(7, .int (nI i)), (3, .int 1), (4, .int (nI f1)), (5, .int (nI ea)), (6, .int pl), (0, .ref b), (1, .ref (Q 0)), (2, .int (nI n))]) [6, 1, 0, 7, 8, 9, 10, 11] rfl
      exact kk hr2 (show ea ≤ f1 by omega) (by omega) ((hpl (by omega)).trans (by unfold tellZ; rw [rp2 ea hea])) hP4 hD4 hS4 hl
