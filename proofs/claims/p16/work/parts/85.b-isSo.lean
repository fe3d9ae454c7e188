/-! isSo: what is told of a figure, and told again -/
set_option maxHeartbeats 8000000 in
set_option maxRecDepth 100000 in
theorem isSo_a {p : Program} {l : Launch} {e : Env} {s : State} {m : MethodId} {args : Array Value} {below : List Frame} {meth : Method} {c : Code} {Qz : State → Prop} {dC : Nat → ClassId} {dI : Nat → Nat → Nat} {cY : Nat → ClassId} {Q AD AE HQ : Nat → Nat} {A : Nat → Prop} {H : Heap} {locs : List Loc} {ls : Array Slot} {n fr T : Nat} {u : zS} {f : Int32} (hst : l.stackTraces = false) (B : bdF p s m c args cL_isSo 6 wsL_isSo dC dI cY A) (h : rdZ n fr T u) (hf : f = 0 ∨ f = 1) (hP : va_P (dC, dI) vwCl (obW cY Q AD AE HQ u) H) (hD : va_D A (obW cY Q AD AE HQ u)) (hS : va_S A s.heap H locs) (hl : lv_has ls 6 [(0, .ref (Q 0)), (1, .int f), (2, .int (nI fr))]) (kk : ∀ {H : Heap} {locs : List Loc} {ls : Array Slot}, va_P (dC, dI) vwCl (obW cY Q AD AE HQ u) H → va_D A (obW cY Q AD AE HQ u) → va_S A s.heap H locs → lv_has ls 6 [(5, .int 0), (4, .int 1), (3, .int (ofZ u f 3)), (0, .ref (Q 0)), (1, .int f), (2, .int (nI fr))] → W p l e ({ frames := 8, cells := 48, slots := 288, locals := 200 } : Room) s m args below meth c H locs 16 96 Qz (F0 m 135 ls [])) : W p l e ({ frames := 8, cells := 48, slots := 288, locals := 200 } : Room) s m args below meth c H locs 0 0 Qz (F0 m 0 ls []) := by
  obtain ⟨hx, hb, hml, hown, hts, hK, hN, xn, xt, xz, hA⟩ := B
  obtain ⟨⟨a2, b2⟩, a1, hd, n4, m4, a5, z5, c6, -, -⟩ := of_facts h hf
  have hx1 : X7_of_x f 1 = 0 := ofx_0 (w := 1) hf (by decide)
  have hx2 : X7_of_x f 2 = 0 := ofx_0 (w := 2) hf (by decide)
  have hx3 : X7_of_x f 3 = 0 := ofx_0 (w := 3) hf (by decide)
  have hx4 : X7_of_x f 4 = 0 := ofx_0 (w := 4) hf (by decide)
  have hx5 : X7_of_x f 5 = 0 := ofx_0 (w := 5) hf (by decide)
  have hx6 : X7_of_x f 6 = 0 := ofx_0 (w := 6) hf (by decide)
  refine lv_aload_n hx hb dL_isSo_0 rfl (lv_at hl 0 rfl) ?_
  refine lv_iload_n hx hb dL_isSo_1 rfl (lv_at hl 1 rfl) ?_
  refine lv_iconst (v := 3) hx hb dL_isSo_2 (by decide) ?_
  have hF1 := zF hD hS hA
  refine va_calli (va_runV (As := [.int f, .int 3]) (rest := []) ⟨hx, hb, hml, hown, hts⟩ (o_of l dC dI cY Q AD AE HQ u f 3 hst hx3 H.size) (cwV 2 hts gL_isSo_X7_of rfl rfl rfl (by decide +kernel) ⟨Nat.le_of_ble_eq_true rfl, Nat.le_of_ble_eq_true rfl⟩) ⟨blindX, va_recv hK hP (ci := 7) (q0 := 0) rfl rfl, fun U hU hW => ⟨rfl, xPre_of hP hK hN hD xn xt xz hS hF1 U hU hW⟩⟩ rfl rfl hl.1 rfl (lv_room (Nat.le_of_ble_eq_true rfl)) dL_isSo_3 ⟨Nat.le_of_ble_eq_true rfl, Nat.le_of_ble_eq_true rfl⟩) hS (fun q _ h => hF1 q h) hF1 (fun r1 w1 t1 H1 locs1 ht1 hvm hq1 hB1 hz9 hk9 hS1 => ?_)
  clear hvm hz9 hk9
  obtain ⟨er1, ev1⟩ := hq1
  rw [ev1] at hB1
  subst er1
  obtain ⟨hP1, hD1⟩ := hB1
  rw [ht1] at hP1
  replace hD1 := hD1.weaken (fun _ q _ h => hF1 q.1 h)
  clear hF1 ht1 hP hD hS
  refine lv_istore_n (lv' := [(3, .int (ofZ u f 3)), (0, .ref (Q 0)), (1, .int f), (2, .int (nI fr))]) hx hb dL_isSo_6 rfl hl (by decide) rfl (fun ls hl => ?_)
  refine lv_aload_n hx hb dL_isSo_7 rfl (lv_at hl 1 rfl) ?_
  refine lv_iload_n hx hb dL_isSo_8 rfl (lv_at hl 2 rfl) ?_
  refine lv_iconst (v := 2) hx hb dL_isSo_9 (by decide) ?_
  have hF2 := zF hD1 hS1 hA
  refine va_calli (va_runV (As := [.int f, .int 2]) (rest := []) ⟨hx, hb, hml, hown, hts⟩ (o_of l dC dI cY Q AD AE HQ u f 2 hst hx2 H1.size) (cwV 2 hts gL_isSo_X7_of rfl rfl rfl (by decide +kernel) ⟨Nat.le_of_ble_eq_true rfl, Nat.le_of_ble_eq_true rfl⟩) ⟨blindX, va_recv hK hP1 (ci := 7) (q0 := 0) rfl rfl, fun U hU hW => ⟨rfl, xPre_of hP1 hK hN hD1 xn xt xz hS1 hF2 U hU hW⟩⟩ rfl rfl hl.1 rfl (lv_room (Nat.le_of_ble_eq_true rfl)) dL_isSo_10 ⟨Nat.le_of_ble_eq_true rfl, Nat.le_of_ble_eq_true rfl⟩) hS1 (fun q _ h => hF2 q h) hF2 (fun r2 w2 t2 H2 locs2 ht2 hvm hq2 hB2 hz9 hk9 hS2 => ?_)
  clear hvm hz9 hk9
  obtain ⟨er2, ev2⟩ := hq2
  rw [ev2] at hB2
  subst er2
  obtain ⟨hP2, hD2⟩ := hB2
  rw [ht2] at hP2
  replace hD2 := hD2.weaken (fun _ q _ h => hF2 q.1 h)
  clear hF2 ht2 hP1 hD1 hS1
  refine lv_if_lt (tgt := 52) hx hb dL_isSo_13 (by decide) (fun c9 => absurd c9 (Int32.not_lt.mpr a2)) (fun _ => ?_)
  refine lv_aload_n hx hb dL_isSo_16 rfl (lv_at hl 1 rfl) ?_
  refine lv_iload_n hx hb dL_isSo_17 rfl (lv_at hl 2 rfl) ?_
  refine lv_iconst (v := 2) hx hb dL_isSo_18 (by decide) ?_
  have hF3 := zF hD2 hS2 hA
  refine va_calli (va_runV (As := [.int f, .int 2]) (rest := []) ⟨hx, hb, hml, hown, hts⟩ (o_of l dC dI cY Q AD AE HQ u f 2 hst hx2 H2.size) (cwV 2 hts gL_isSo_X7_of rfl rfl rfl (by decide +kernel) ⟨Nat.le_of_ble_eq_true rfl, Nat.le_of_ble_eq_true rfl⟩) ⟨blindX, va_recv hK hP2 (ci := 7) (q0 := 0) rfl rfl, fun U hU hW => ⟨rfl, xPre_of hP2 hK hN hD2 xn xt xz hS2 hF3 U hU hW⟩⟩ rfl rfl hl.1 rfl (lv_room (Nat.le_of_ble_eq_true rfl)) dL_isSo_19 ⟨Nat.le_of_ble_eq_true rfl, Nat.le_of_ble_eq_true rfl⟩) hS2 (fun q _ h => hF3 q h) hF3 (fun r3 w3 t3 H3 locs3 ht3 hvm hq3 hB3 hz9 hk9 hS3 => ?_)
  clear hvm hz9 hk9
  obtain ⟨er3, ev3⟩ := hq3
  rw [ev3] at hB3
  subst er3
  obtain ⟨hP3, hD3⟩ := hB3
  rw [ht3] at hP3
  replace hD3 := hD3.weaken (fun _ q _ h => hF3 q.1 h)
  clear hF3 ht3 hP2 hD2 hS2
  refine lv_bipush (v := 100) hx hb dL_isSo_22 (by decide) ?_
  refine lv_icmp_gt (tgt := 52) hx hb dL_isSo_24 (by decide) (fun c9 => absurd c9 (Int32.not_lt.mpr b2)) (fun _ => ?_)
  refine lv_aload_n hx hb dL_isSo_27 rfl (lv_at hl 1 rfl) ?_
  refine lv_iload_n hx hb dL_isSo_28 rfl (lv_at hl 2 rfl) ?_
  refine lv_iconst (v := 1) hx hb dL_isSo_29 (by decide) ?_
  have hF4 := zF hD3 hS3 hA
  refine va_calli (va_runV (As := [.int f, .int 1]) (rest := []) ⟨hx, hb, hml, hown, hts⟩ (o_of l dC dI cY Q AD AE HQ u f 1 hst hx1 H3.size) (cwV 2 hts gL_isSo_X7_of rfl rfl rfl (by decide +kernel) ⟨Nat.le_of_ble_eq_true rfl, Nat.le_of_ble_eq_true rfl⟩) ⟨blindX, va_recv hK hP3 (ci := 7) (q0 := 0) rfl rfl, fun U hU hW => ⟨rfl, xPre_of hP3 hK hN hD3 xn xt xz hS3 hF4 U hU hW⟩⟩ rfl rfl hl.1 rfl (lv_room (Nat.le_of_ble_eq_true rfl)) dL_isSo_30 ⟨Nat.le_of_ble_eq_true rfl, Nat.le_of_ble_eq_true rfl⟩) hS3 (fun q _ h => hF4 q h) hF4 (fun r4 w4 t4 H4 locs4 ht4 hvm hq4 hB4 hz9 hk9 hS4 => ?_)
  clear hvm hz9 hk9
  obtain ⟨er4, ev4⟩ := hq4
  rw [ev4] at hB4
  subst er4
  obtain ⟨hP4, hD4⟩ := hB4
  rw [ht4] at hP4
  replace hD4 := hD4.weaken (fun _ q _ h => hF4 q.1 h)
  clear hF4 ht4 hP3 hD3 hS3
  refine lv_sipush (v := 1000) hx hb dL_isSo_33 (by decide) ?_
  refine lv_icmp_gt (tgt := 52) hx hb dL_isSo_36 (by decide) (fun c9 => absurd c9 (Int32.not_lt.mpr a1)) (fun _ => ?_)
  refine lv_iload_n hx hb dL_isSo_39 rfl (lv_at hl 0 rfl) ?_
  refine lv_if_lt (tgt := 52) hx hb dL_isSo_40 (by decide) (fun c9 => absurd c9 (by rcases hd with z | z | z | z <;> rw [z] <;> decide)) (fun _ => ?_)
  refine lv_iload_n hx hb dL_isSo_43 rfl (lv_at hl 0 rfl) ?_
  refine lv_iconst (v := 3) hx hb dL_isSo_44 (by decide) ?_
  refine lv_icmp_gt (tgt := 52) hx hb dL_isSo_45 (by decide) (fun c9 => absurd c9 (by rcases hd with z | z | z | z <;> rw [z] <;> decide)) (fun _ => ?_)
  refine lv_iconst (v := 1) hx hb dL_isSo_48 (by decide) ?_
  refine lv_goto (tgt := 53) hx hb dL_isSo_49 (by decide) ?_
  refine lv_istore (lv' := [(4, .int 1), (3, .int (ofZ u f 3)), (0, .ref (Q 0)), (1, .int f), (2, .int (nI fr))]) hx hb dL_isSo_53 hl (by decide) rfl (fun ls hl => ?_)
  refine lv_iload hx hb dL_isSo_55 (lv_at hl 0 rfl) ?_
  refine lv_if_eq (tgt := 129) hx hb dL_isSo_57 (by decide) (fun c9 => absurd c9 (by decide)) (fun _ => ?_)
  rcases hd with e3 | e3 | e3 | e3
  · refine lv_aload_n hx hb dL_isSo_60 rfl (lv_at hl 2 rfl) ?_
    refine lv_iload_n hx hb dL_isSo_61 rfl (lv_at hl 3 rfl) ?_
    refine lv_iconst (v := 4) hx hb dL_isSo_62 (by decide) ?_
    have hF5 := zF hD4 hS4 hA
    refine va_calli (va_runV (As := [.int f, .int 4]) (rest := []) ⟨hx, hb, hml, hown, hts⟩ (o_of l dC dI cY Q AD AE HQ u f 4 hst hx4 H4.size) (cwV 2 hts gL_isSo_X7_of rfl rfl rfl (by decide +kernel) ⟨Nat.le_of_ble_eq_true rfl, Nat.le_of_ble_eq_true rfl⟩) ⟨blindX, va_recv hK hP4 (ci := 7) (q0 := 0) rfl rfl, fun U hU hW => ⟨rfl, xPre_of hP4 hK hN hD4 xn xt xz hS4 hF5 U hU hW⟩⟩ rfl rfl hl.1 rfl (lv_room (Nat.le_of_ble_eq_true rfl)) dL_isSo_63 ⟨Nat.le_of_ble_eq_true rfl, Nat.le_of_ble_eq_true rfl⟩) hS4 (fun q _ h => hF5 q h) hF5 (fun r5 w5 t5 H5 locs5 ht5 hvm hq5 hB5 hz9 hk9 hS5 => ?_)
    clear hvm hz9 hk9
    obtain ⟨er5, ev5⟩ := hq5
    rw [ev5] at hB5
    subst er5
    obtain ⟨hP5, hD5⟩ := hB5
    rw [ht5] at hP5
    replace hD5 := hD5.weaken (fun _ q _ h => hF5 q.1 h)
    clear hF5 ht5 hP4 hD4 hS4
    refine lv_iconst (v := (-1)) hx hb dL_isSo_66 (by decide) ?_
    refine lv_icmp_ne (tgt := 74) hx hb dL_isSo_67 (by decide) (fun c9 => absurd c9 (fun q => q (m4 (by rw [e3]; decide)))) (fun _ => ?_)
    refine lv_iconst (v := 1) hx hb dL_isSo_70 (by decide) ?_
    refine lv_goto (tgt := 75) hx hb dL_isSo_71 (by decide) ?_
    refine lv_iload_n hx hb dL_isSo_75 rfl (lv_at hl 1 rfl) ?_
    refine lv_iconst (v := 1) hx hb dL_isSo_76 (by decide) ?_
    refine lv_icmp_eq (tgt := 84) hx hb dL_isSo_77 (by decide) (fun c9 => absurd c9 (by rw [e3]; decide)) (fun _ => ?_)
    refine lv_iconst (v := 1) hx hb dL_isSo_80 (by decide) ?_
    refine lv_goto (tgt := 85) hx hb dL_isSo_81 (by decide) ?_
    refine lv_icmp_ne (tgt := 129) hx hb dL_isSo_85 (by decide) (fun c9 => absurd c9 (by decide)) (fun _ => ?_)
    refine lv_aload_n hx hb dL_isSo_88 rfl (lv_at hl 2 rfl) ?_
    refine lv_iload_n hx hb dL_isSo_89 rfl (lv_at hl 3 rfl) ?_
    refine lv_iconst (v := 5) hx hb dL_isSo_90 (by decide) ?_
    have hF6 := zF hD5 hS5 hA
    refine va_calli (va_runV (As := [.int f, .int 5]) (rest := []) ⟨hx, hb, hml, hown, hts⟩ (o_of l dC dI cY Q AD AE HQ u f 5 hst hx5 H5.size) (cwV 2 hts gL_isSo_X7_of rfl rfl rfl (by decide +kernel) ⟨Nat.le_of_ble_eq_true rfl, Nat.le_of_ble_eq_true rfl⟩) ⟨blindX, va_recv hK hP5 (ci := 7) (q0 := 0) rfl rfl, fun U hU hW => ⟨rfl, xPre_of hP5 hK hN hD5 xn xt xz hS5 hF6 U hU hW⟩⟩ rfl rfl hl.1 rfl (lv_room (Nat.le_of_ble_eq_true rfl)) dL_isSo_91 ⟨Nat.le_of_ble_eq_true rfl, Nat.le_of_ble_eq_true rfl⟩) hS5 (fun q _ h => hF6 q h) hF6 (fun r6 w6 t6 H6 locs6 ht6 hvm hq6 hB6 hz9 hk9 hS6 => ?_)
    clear hvm hz9 hk9
    obtain ⟨er6, ev6⟩ := hq6
    rw [ev6] at hB6
    subst er6
    obtain ⟨hP6, hD6⟩ := hB6
    rw [ht6] at hP6
    replace hD6 := hD6.weaken (fun _ q _ h => hF6 q.1 h)
    clear hF6 ht6 hP5 hD5 hS5
    refine lv_if_lt (tgt := 129) hx hb dL_isSo_94 (by decide) (fun c9 => absurd c9 (Int32.not_lt.mpr a5)) (fun _ => ?_)
    refine lv_iload_n hx hb dL_isSo_97 rfl (lv_at hl 1 rfl) ?_
    refine lv_if_ne (tgt := 110) hx hb dL_isSo_98 (by decide) (fun c9 => absurd c9 (fun q => q e3)) (fun _ => ?_)
    refine lv_aload_n hx hb dL_isSo_101 rfl (lv_at hl 2 rfl) ?_
    refine lv_iload_n hx hb dL_isSo_102 rfl (lv_at hl 3 rfl) ?_
    refine lv_iconst (v := 5) hx hb dL_isSo_103 (by decide) ?_
    have hF7 := zF hD6 hS6 hA
    refine va_calli (va_runV (As := [.int f, .int 5]) (rest := []) ⟨hx, hb, hml, hown, hts⟩ (o_of l dC dI cY Q AD AE HQ u f 5 hst hx5 H6.size) (cwV 2 hts gL_isSo_X7_of rfl rfl rfl (by decide +kernel) ⟨Nat.le_of_ble_eq_true rfl, Nat.le_of_ble_eq_true rfl⟩) ⟨blindX, va_recv hK hP6 (ci := 7) (q0 := 0) rfl rfl, fun U hU hW => ⟨rfl, xPre_of hP6 hK hN hD6 xn xt xz hS6 hF7 U hU hW⟩⟩ rfl rfl hl.1 rfl (lv_room (Nat.le_of_ble_eq_true rfl)) dL_isSo_104 ⟨Nat.le_of_ble_eq_true rfl, Nat.le_of_ble_eq_true rfl⟩) hS6 (fun q _ h => hF7 q h) hF7 (fun r7 w7 t7 H7 locs7 ht7 hvm hq7 hB7 hz9 hk9 hS7 => ?_)
    clear hvm hz9 hk9
    obtain ⟨er7, ev7⟩ := hq7
    rw [ev7] at hB7
    subst er7
    obtain ⟨hP7, hD7⟩ := hB7
    rw [ht7] at hP7
    replace hD7 := hD7.weaken (fun _ q _ h => hF7 q.1 h)
    clear hF7 ht7 hP6 hD6 hS6
    refine lv_if_ne (tgt := 129) hx hb dL_isSo_107 (by decide) (fun c9 => absurd c9 (fun q => q (z5 e3))) (fun _ => ?_)
    refine lv_iload_n hx hb dL_isSo_110 rfl (lv_at hl 1 rfl) ?_
    refine lv_iconst (v := 2) hx hb dL_isSo_111 (by decide) ?_
    refine lv_icmp_eq (tgt := 125) hx hb dL_isSo_112 (by decide) (fun c9 => absurd c9 (by rw [e3]; decide)) (fun _ => ?_)
    refine lv_aload_n hx hb dL_isSo_115 rfl (lv_at hl 2 rfl) ?_
    refine lv_iload_n hx hb dL_isSo_116 rfl (lv_at hl 3 rfl) ?_
    refine lv_bipush (v := 6) hx hb dL_isSo_117 (by decide) ?_
    have hF8 := zF hD7 hS7 hA
    refine va_calli (va_runV (As := [.int f, .int 6]) (rest := []) ⟨hx, hb, hml, hown, hts⟩ (o_of l dC dI cY Q AD AE HQ u f 6 hst hx6 H7.size) (cwV 2 hts gL_isSo_X7_of rfl rfl rfl (by decide +kernel) ⟨Nat.le_of_ble_eq_true rfl, Nat.le_of_ble_eq_true rfl⟩) ⟨blindX, va_recv hK hP7 (ci := 7) (q0 := 0) rfl rfl, fun U hU hW => ⟨rfl, xPre_of hP7 hK hN hD7 xn xt xz hS7 hF8 U hU hW⟩⟩ rfl rfl hl.1 rfl (lv_room (Nat.le_of_ble_eq_true rfl)) dL_isSo_119 ⟨Nat.le_of_ble_eq_true rfl, Nat.le_of_ble_eq_true rfl⟩) hS7 (fun q _ h => hF8 q h) hF8 (fun r8 w8 t8 H8 locs8 ht8 hvm hq8 hB8 hz9 hk9 hS8 => ?_)
    clear hvm hz9 hk9
    obtain ⟨er8, ev8⟩ := hq8
    rw [ev8] at hB8
    subst er8
    obtain ⟨hP8, hD8⟩ := hB8
    rw [ht8] at hP8
    replace hD8 := hD8.weaken (fun _ q _ h => hF8 q.1 h)
    clear hF8 ht8 hP7 hD7 hS7
    refine lv_if_ne (tgt := 129) hx hb dL_isSo_122 (by decide) (fun c9 => absurd c9 (fun q => q (c6 (by rw [e3]; decide)))) (fun _ => ?_)
    refine lv_iconst (v := 1) hx hb dL_isSo_125 (by decide) ?_
    refine lv_goto (tgt := 130) hx hb dL_isSo_126 (by decide) ?_
    refine lv_istore (lv' := [(4, .int 1), (3, .int (ofZ u f 3)), (0, .ref (Q 0)), (1, .int f), (2, .int (nI fr))]) hx hb dL_isSo_130 hl (by decide) rfl (fun ls hl => ?_)
    refine lv_iconst (v := 0) hx hb dL_isSo_132 (by decide) ?_
    refine lv_istore (lv' := [(5, .int 0), (4, .int 1), (3, .int (ofZ u f 3)), (0, .ref (Q 0)), (1, .int f), (2, .int (nI fr))]) hx hb dL_isSo_133 hl (by decide) rfl (fun ls hl => ?_)
    refine W.widen (k := 16) (n := 96) (Nat.le_of_ble_eq_true rfl) (Nat.le_of_ble_eq_true rfl) ?_
    exact kk hP8 hD8 hS8 hl
  · refine lv_aload_n hx hb dL_isSo_60 rfl (lv_at hl 2 rfl) ?_
    refine lv_iload_n hx hb dL_isSo_61 rfl (lv_at hl 3 rfl) ?_
    refine lv_iconst (v := 4) hx hb dL_isSo_62 (by decide) ?_
    have hF5 := zF hD4 hS4 hA
    refine va_calli (va_runV (As := [.int f, .int 4]) (rest := []) ⟨hx, hb, hml, hown, hts⟩ (o_of l dC dI cY Q AD AE HQ u f 4 hst hx4 H4.size) (cwV 2 hts gL_isSo_X7_of rfl rfl rfl (by decide +kernel) ⟨Nat.le_of_ble_eq_true rfl, Nat.le_of_ble_eq_true rfl⟩) ⟨blindX, va_recv hK hP4 (ci := 7) (q0 := 0) rfl rfl, fun U hU hW => ⟨rfl, xPre_of hP4 hK hN hD4 xn xt xz hS4 hF5 U hU hW⟩⟩ rfl rfl hl.1 rfl (lv_room (Nat.le_of_ble_eq_true rfl)) dL_isSo_63 ⟨Nat.le_of_ble_eq_true rfl, Nat.le_of_ble_eq_true rfl⟩) hS4 (fun q _ h => hF5 q h) hF5 (fun r5 w5 t5 H5 locs5 ht5 hvm hq5 hB5 hz9 hk9 hS5 => ?_)
    clear hvm hz9 hk9
    obtain ⟨er5, ev5⟩ := hq5
    rw [ev5] at hB5
    subst er5
    obtain ⟨hP5, hD5⟩ := hB5
    rw [ht5] at hP5
    replace hD5 := hD5.weaken (fun _ q _ h => hF5 q.1 h)
    clear hF5 ht5 hP4 hD4 hS4
    refine lv_iconst (v := (-1)) hx hb dL_isSo_66 (by decide) ?_
    refine lv_icmp_ne (tgt := 74) hx hb dL_isSo_67 (by decide) (fun _ => ?_) (fun c9 => absurd c9 (n4 e3))
    refine lv_iconst (v := 0) hx hb dL_isSo_74 (by decide) ?_
    refine lv_iload_n hx hb dL_isSo_75 rfl (lv_at hl 1 rfl) ?_
    refine lv_iconst (v := 1) hx hb dL_isSo_76 (by decide) ?_
    refine lv_icmp_eq (tgt := 84) hx hb dL_isSo_77 (by decide) (fun _ => ?_) (fun c9 => absurd e3 c9)
    refine lv_iconst (v := 0) hx hb dL_isSo_84 (by decide) ?_
    refine lv_icmp_ne (tgt := 129) hx hb dL_isSo_85 (by decide) (fun c9 => absurd c9 (by decide)) (fun _ => ?_)
    refine lv_aload_n hx hb dL_isSo_88 rfl (lv_at hl 2 rfl) ?_
    refine lv_iload_n hx hb dL_isSo_89 rfl (lv_at hl 3 rfl) ?_
    refine lv_iconst (v := 5) hx hb dL_isSo_90 (by decide) ?_
    have hF6 := zF hD5 hS5 hA
    refine va_calli (va_runV (As := [.int f, .int 5]) (rest := []) ⟨hx, hb, hml, hown, hts⟩ (o_of l dC dI cY Q AD AE HQ u f 5 hst hx5 H5.size) (cwV 2 hts gL_isSo_X7_of rfl rfl rfl (by decide +kernel) ⟨Nat.le_of_ble_eq_true rfl, Nat.le_of_ble_eq_true rfl⟩) ⟨blindX, va_recv hK hP5 (ci := 7) (q0 := 0) rfl rfl, fun U hU hW => ⟨rfl, xPre_of hP5 hK hN hD5 xn xt xz hS5 hF6 U hU hW⟩⟩ rfl rfl hl.1 rfl (lv_room (Nat.le_of_ble_eq_true rfl)) dL_isSo_91 ⟨Nat.le_of_ble_eq_true rfl, Nat.le_of_ble_eq_true rfl⟩) hS5 (fun q _ h => hF6 q h) hF6 (fun r6 w6 t6 H6 locs6 ht6 hvm hq6 hB6 hz9 hk9 hS6 => ?_)
    clear hvm hz9 hk9
    obtain ⟨er6, ev6⟩ := hq6
    rw [ev6] at hB6
    subst er6
    obtain ⟨hP6, hD6⟩ := hB6
    rw [ht6] at hP6
    replace hD6 := hD6.weaken (fun _ q _ h => hF6 q.1 h)
    clear hF6 ht6 hP5 hD5 hS5
    refine lv_if_lt (tgt := 129) hx hb dL_isSo_94 (by decide) (fun c9 => absurd c9 (Int32.not_lt.mpr a5)) (fun _ => ?_)
    refine lv_iload_n hx hb dL_isSo_97 rfl (lv_at hl 1 rfl) ?_
    refine lv_if_ne (tgt := 110) hx hb dL_isSo_98 (by decide) (fun _ => ?_) (fun c9 => absurd c9 (by rw [e3]; decide))
    refine lv_iload_n hx hb dL_isSo_110 rfl (lv_at hl 1 rfl) ?_
    refine lv_iconst (v := 2) hx hb dL_isSo_111 (by decide) ?_
    refine lv_icmp_eq (tgt := 125) hx hb dL_isSo_112 (by decide) (fun c9 => absurd c9 (by rw [e3]; decide)) (fun _ => ?_)
    refine lv_aload_n hx hb dL_isSo_115 rfl (lv_at hl 2 rfl) ?_
    refine lv_iload_n hx hb dL_isSo_116 rfl (lv_at hl 3 rfl) ?_
    refine lv_bipush (v := 6) hx hb dL_isSo_117 (by decide) ?_
    have hF7 := zF hD6 hS6 hA
    refine va_calli (va_runV (As := [.int f, .int 6]) (rest := []) ⟨hx, hb, hml, hown, hts⟩ (o_of l dC dI cY Q AD AE HQ u f 6 hst hx6 H6.size) (cwV 2 hts gL_isSo_X7_of rfl rfl rfl (by decide +kernel) ⟨Nat.le_of_ble_eq_true rfl, Nat.le_of_ble_eq_true rfl⟩) ⟨blindX, va_recv hK hP6 (ci := 7) (q0 := 0) rfl rfl, fun U hU hW => ⟨rfl, xPre_of hP6 hK hN hD6 xn xt xz hS6 hF7 U hU hW⟩⟩ rfl rfl hl.1 rfl (lv_room (Nat.le_of_ble_eq_true rfl)) dL_isSo_119 ⟨Nat.le_of_ble_eq_true rfl, Nat.le_of_ble_eq_true rfl⟩) hS6 (fun q _ h => hF7 q h) hF7 (fun r7 w7 t7 H7 locs7 ht7 hvm hq7 hB7 hz9 hk9 hS7 => ?_)
    clear hvm hz9 hk9
    obtain ⟨er7, ev7⟩ := hq7
    rw [ev7] at hB7
    subst er7
    obtain ⟨hP7, hD7⟩ := hB7
    rw [ht7] at hP7
    replace hD7 := hD7.weaken (fun _ q _ h => hF7 q.1 h)
    clear hF7 ht7 hP6 hD6 hS6
    refine lv_if_ne (tgt := 129) hx hb dL_isSo_122 (by decide) (fun c9 => absurd c9 (fun q => q (c6 (by rw [e3]; decide)))) (fun _ => ?_)
    refine lv_iconst (v := 1) hx hb dL_isSo_125 (by decide) ?_
    refine lv_goto (tgt := 130) hx hb dL_isSo_126 (by decide) ?_
    refine lv_istore (lv' := [(4, .int 1), (3, .int (ofZ u f 3)), (0, .ref (Q 0)), (1, .int f), (2, .int (nI fr))]) hx hb dL_isSo_130 hl (by decide) rfl (fun ls hl => ?_)
    refine lv_iconst (v := 0) hx hb dL_isSo_132 (by decide) ?_
    refine lv_istore (lv' := [(5, .int 0), (4, .int 1), (3, .int (ofZ u f 3)), (0, .ref (Q 0)), (1, .int f), (2, .int (nI fr))]) hx hb dL_isSo_133 hl (by decide) rfl (fun ls hl => ?_)
    refine W.widen (k := 16) (n := 96) (Nat.le_of_ble_eq_true rfl) (Nat.le_of_ble_eq_true rfl) ?_
    exact kk hP7 hD7 hS7 hl
  · refine lv_aload_n hx hb dL_isSo_60 rfl (lv_at hl 2 rfl) ?_
    refine lv_iload_n hx hb dL_isSo_61 rfl (lv_at hl 3 rfl) ?_
    refine lv_iconst (v := 4) hx hb dL_isSo_62 (by decide) ?_
    have hF5 := zF hD4 hS4 hA
    refine va_calli (va_runV (As := [.int f, .int 4]) (rest := []) ⟨hx, hb, hml, hown, hts⟩ (o_of l dC dI cY Q AD AE HQ u f 4 hst hx4 H4.size) (cwV 2 hts gL_isSo_X7_of rfl rfl rfl (by decide +kernel) ⟨Nat.le_of_ble_eq_true rfl, Nat.le_of_ble_eq_true rfl⟩) ⟨blindX, va_recv hK hP4 (ci := 7) (q0 := 0) rfl rfl, fun U hU hW => ⟨rfl, xPre_of hP4 hK hN hD4 xn xt xz hS4 hF5 U hU hW⟩⟩ rfl rfl hl.1 rfl (lv_room (Nat.le_of_ble_eq_true rfl)) dL_isSo_63 ⟨Nat.le_of_ble_eq_true rfl, Nat.le_of_ble_eq_true rfl⟩) hS4 (fun q _ h => hF5 q h) hF5 (fun r5 w5 t5 H5 locs5 ht5 hvm hq5 hB5 hz9 hk9 hS5 => ?_)
    clear hvm hz9 hk9
    obtain ⟨er5, ev5⟩ := hq5
    rw [ev5] at hB5
    subst er5
    obtain ⟨hP5, hD5⟩ := hB5
    rw [ht5] at hP5
    replace hD5 := hD5.weaken (fun _ q _ h => hF5 q.1 h)
    clear hF5 ht5 hP4 hD4 hS4
    refine lv_iconst (v := (-1)) hx hb dL_isSo_66 (by decide) ?_
    refine lv_icmp_ne (tgt := 74) hx hb dL_isSo_67 (by decide) (fun c9 => absurd c9 (fun q => q (m4 (by rw [e3]; decide)))) (fun _ => ?_)
    refine lv_iconst (v := 1) hx hb dL_isSo_70 (by decide) ?_
    refine lv_goto (tgt := 75) hx hb dL_isSo_71 (by decide) ?_
    refine lv_iload_n hx hb dL_isSo_75 rfl (lv_at hl 1 rfl) ?_
    refine lv_iconst (v := 1) hx hb dL_isSo_76 (by decide) ?_
    refine lv_icmp_eq (tgt := 84) hx hb dL_isSo_77 (by decide) (fun c9 => absurd c9 (by rw [e3]; decide)) (fun _ => ?_)
    refine lv_iconst (v := 1) hx hb dL_isSo_80 (by decide) ?_
    refine lv_goto (tgt := 85) hx hb dL_isSo_81 (by decide) ?_
    refine lv_icmp_ne (tgt := 129) hx hb dL_isSo_85 (by decide) (fun c9 => absurd c9 (by decide)) (fun _ => ?_)
    refine lv_aload_n hx hb dL_isSo_88 rfl (lv_at hl 2 rfl) ?_
    refine lv_iload_n hx hb dL_isSo_89 rfl (lv_at hl 3 rfl) ?_
    refine lv_iconst (v := 5) hx hb dL_isSo_90 (by decide) ?_
    have hF6 := zF hD5 hS5 hA
    refine va_calli (va_runV (As := [.int f, .int 5]) (rest := []) ⟨hx, hb, hml, hown, hts⟩ (o_of l dC dI cY Q AD AE HQ u f 5 hst hx5 H5.size) (cwV 2 hts gL_isSo_X7_of rfl rfl rfl (by decide +kernel) ⟨Nat.le_of_ble_eq_true rfl, Nat.le_of_ble_eq_true rfl⟩) ⟨blindX, va_recv hK hP5 (ci := 7) (q0 := 0) rfl rfl, fun U hU hW => ⟨rfl, xPre_of hP5 hK hN hD5 xn xt xz hS5 hF6 U hU hW⟩⟩ rfl rfl hl.1 rfl (lv_room (Nat.le_of_ble_eq_true rfl)) dL_isSo_91 ⟨Nat.le_of_ble_eq_true rfl, Nat.le_of_ble_eq_true rfl⟩) hS5 (fun q _ h => hF6 q h) hF6 (fun r6 w6 t6 H6 locs6 ht6 hvm hq6 hB6 hz9 hk9 hS6 => ?_)
    clear hvm hz9 hk9
    obtain ⟨er6, ev6⟩ := hq6
    rw [ev6] at hB6
    subst er6
    obtain ⟨hP6, hD6⟩ := hB6
    rw [ht6] at hP6
    replace hD6 := hD6.weaken (fun _ q _ h => hF6 q.1 h)
    clear hF6 ht6 hP5 hD5 hS5
    refine lv_if_lt (tgt := 129) hx hb dL_isSo_94 (by decide) (fun c9 => absurd c9 (Int32.not_lt.mpr a5)) (fun _ => ?_)
    refine lv_iload_n hx hb dL_isSo_97 rfl (lv_at hl 1 rfl) ?_
    refine lv_if_ne (tgt := 110) hx hb dL_isSo_98 (by decide) (fun _ => ?_) (fun c9 => absurd c9 (by rw [e3]; decide))
    refine lv_iload_n hx hb dL_isSo_110 rfl (lv_at hl 1 rfl) ?_
    refine lv_iconst (v := 2) hx hb dL_isSo_111 (by decide) ?_
    refine lv_icmp_eq (tgt := 125) hx hb dL_isSo_112 (by decide) (fun _ => ?_) (fun c9 => absurd e3 c9)
    refine lv_iconst (v := 1) hx hb dL_isSo_125 (by decide) ?_
    refine lv_goto (tgt := 130) hx hb dL_isSo_126 (by decide) ?_
    refine lv_istore (lv' := [(4, .int 1), (3, .int (ofZ u f 3)), (0, .ref (Q 0)), (1, .int f), (2, .int (nI fr))]) hx hb dL_isSo_130 hl (by decide) rfl (fun ls hl => ?_)
    refine lv_iconst (v := 0) hx hb dL_isSo_132 (by decide) ?_
    refine lv_istore (lv' := [(5, .int 0), (4, .int 1), (3, .int (ofZ u f 3)), (0, .ref (Q 0)), (1, .int f), (2, .int (nI fr))]) hx hb dL_isSo_133 hl (by decide) rfl (fun ls hl => ?_)
    refine W.widen (k := 16) (n := 96) (Nat.le_of_ble_eq_true rfl) (Nat.le_of_ble_eq_true rfl) ?_
    exact kk hP6 hD6 hS6 hl
  · refine lv_aload_n hx hb dL_isSo_60 rfl (lv_at hl 2 rfl) ?_
    refine lv_iload_n hx hb dL_isSo_61 rfl (lv_at hl 3 rfl) ?_
    refine lv_iconst (v := 4) hx hb dL_isSo_62 (by decide) ?_
    have hF5 := zF hD4 hS4 hA
    refine va_calli (va_runV (As := [.int f, .int 4]) (rest := []) ⟨hx, hb, hml, hown, hts⟩ (o_of l dC dI cY Q AD AE HQ u f 4 hst hx4 H4.size) (cwV 2 hts gL_isSo_X7_of rfl rfl rfl (by decide +kernel) ⟨Nat.le_of_ble_eq_true rfl, Nat.le_of_ble_eq_true rfl⟩) ⟨blindX, va_recv hK hP4 (ci := 7) (q0 := 0) rfl rfl, fun U hU hW => ⟨rfl, xPre_of hP4 hK hN hD4 xn xt xz hS4 hF5 U hU hW⟩⟩ rfl rfl hl.1 rfl (lv_room (Nat.le_of_ble_eq_true rfl)) dL_isSo_63 ⟨Nat.le_of_ble_eq_true rfl, Nat.le_of_ble_eq_true rfl⟩) hS4 (fun q _ h => hF5 q h) hF5 (fun r5 w5 t5 H5 locs5 ht5 hvm hq5 hB5 hz9 hk9 hS5 => ?_)
    clear hvm hz9 hk9
    obtain ⟨er5, ev5⟩ := hq5
    rw [ev5] at hB5
    subst er5
    obtain ⟨hP5, hD5⟩ := hB5
    rw [ht5] at hP5
    replace hD5 := hD5.weaken (fun _ q _ h => hF5 q.1 h)
    clear hF5 ht5 hP4 hD4 hS4
    refine lv_iconst (v := (-1)) hx hb dL_isSo_66 (by decide) ?_
    refine lv_icmp_ne (tgt := 74) hx hb dL_isSo_67 (by decide) (fun c9 => absurd c9 (fun q => q (m4 (by rw [e3]; decide)))) (fun _ => ?_)
    refine lv_iconst (v := 1) hx hb dL_isSo_70 (by decide) ?_
    refine lv_goto (tgt := 75) hx hb dL_isSo_71 (by decide) ?_
    refine lv_iload_n hx hb dL_isSo_75 rfl (lv_at hl 1 rfl) ?_
    refine lv_iconst (v := 1) hx hb dL_isSo_76 (by decide) ?_
    refine lv_icmp_eq (tgt := 84) hx hb dL_isSo_77 (by decide) (fun c9 => absurd c9 (by rw [e3]; decide)) (fun _ => ?_)
    refine lv_iconst (v := 1) hx hb dL_isSo_80 (by decide) ?_
    refine lv_goto (tgt := 85) hx hb dL_isSo_81 (by decide) ?_
    refine lv_icmp_ne (tgt := 129) hx hb dL_isSo_85 (by decide) (fun c9 => absurd c9 (by decide)) (fun _ => ?_)
    refine lv_aload_n hx hb dL_isSo_88 rfl (lv_at hl 2 rfl) ?_
    refine lv_iload_n hx hb dL_isSo_89 rfl (lv_at hl 3 rfl) ?_
    refine lv_iconst (v := 5) hx hb dL_isSo_90 (by decide) ?_
    have hF6 := zF hD5 hS5 hA
    refine va_calli (va_runV (As := [.int f, .int 5]) (rest := []) ⟨hx, hb, hml, hown, hts⟩ (o_of l dC dI cY Q AD AE HQ u f 5 hst hx5 H5.size) (cwV 2 hts gL_isSo_X7_of rfl rfl rfl (by decide +kernel) ⟨Nat.le_of_ble_eq_true rfl, Nat.le_of_ble_eq_true rfl⟩) ⟨blindX, va_recv hK hP5 (ci := 7) (q0 := 0) rfl rfl, fun U hU hW => ⟨rfl, xPre_of hP5 hK hN hD5 xn xt xz hS5 hF6 U hU hW⟩⟩ rfl rfl hl.1 rfl (lv_room (Nat.le_of_ble_eq_true rfl)) dL_isSo_91 ⟨Nat.le_of_ble_eq_true rfl, Nat.le_of_ble_eq_true rfl⟩) hS5 (fun q _ h => hF6 q h) hF6 (fun r6 w6 t6 H6 locs6 ht6 hvm hq6 hB6 hz9 hk9 hS6 => ?_)
    clear hvm hz9 hk9
    obtain ⟨er6, ev6⟩ := hq6
    rw [ev6] at hB6
    subst er6
    obtain ⟨hP6, hD6⟩ := hB6
    rw [ht6] at hP6
    replace hD6 := hD6.weaken (fun _ q _ h => hF6 q.1 h)
    clear hF6 ht6 hP5 hD5 hS5
    refine lv_if_lt (tgt := 129) hx hb dL_isSo_94 (by decide) (fun c9 => absurd c9 (Int32.not_lt.mpr a5)) (fun _ => ?_)
    refine lv_iload_n hx hb dL_isSo_97 rfl (lv_at hl 1 rfl) ?_
    refine lv_if_ne (tgt := 110) hx hb dL_isSo_98 (by decide) (fun _ => ?_) (fun c9 => absurd c9 (by rw [e3]; decide))
    refine lv_iload_n hx hb dL_isSo_110 rfl (lv_at hl 1 rfl) ?_
    refine lv_iconst (v := 2) hx hb dL_isSo_111 (by decide) ?_
    refine lv_icmp_eq (tgt := 125) hx hb dL_isSo_112 (by decide) (fun c9 => absurd c9 (by rw [e3]; decide)) (fun _ => ?_)
    refine lv_aload_n hx hb dL_isSo_115 rfl (lv_at hl 2 rfl) ?_
    refine lv_iload_n hx hb dL_isSo_116 rfl (lv_at hl 3 rfl) ?_
    refine lv_bipush (v := 6) hx hb dL_isSo_117 (by decide) ?_
    have hF7 := zF hD6 hS6 hA
    refine va_calli (va_runV (As := [.int f, .int 6]) (rest := []) ⟨hx, hb, hml, hown, hts⟩ (o_of l dC dI cY Q AD AE HQ u f 6 hst hx6 H6.size) (cwV 2 hts gL_isSo_X7_of rfl rfl rfl (by decide +kernel) ⟨Nat.le_of_ble_eq_true rfl, Nat.le_of_ble_eq_true rfl⟩) ⟨blindX, va_recv hK hP6 (ci := 7) (q0 := 0) rfl rfl, fun U hU hW => ⟨rfl, xPre_of hP6 hK hN hD6 xn xt xz hS6 hF7 U hU hW⟩⟩ rfl rfl hl.1 rfl (lv_room (Nat.le_of_ble_eq_true rfl)) dL_isSo_119 ⟨Nat.le_of_ble_eq_true rfl, Nat.le_of_ble_eq_true rfl⟩) hS6 (fun q _ h => hF7 q h) hF7 (fun r7 w7 t7 H7 locs7 ht7 hvm hq7 hB7 hz9 hk9 hS7 => ?_)
    clear hvm hz9 hk9
    obtain ⟨er7, ev7⟩ := hq7
    rw [ev7] at hB7
    subst er7
    obtain ⟨hP7, hD7⟩ := hB7
    rw [ht7] at hP7
    replace hD7 := hD7.weaken (fun _ q _ h => hF7 q.1 h)
    clear hF7 ht7 hP6 hD6 hS6
    refine lv_if_ne (tgt := 129) hx hb dL_isSo_122 (by decide) (fun c9 => absurd c9 (fun q => q (c6 (by rw [e3]; decide)))) (fun _ => ?_)
    refine lv_iconst (v := 1) hx hb dL_isSo_125 (by decide) ?_
    refine lv_goto (tgt := 130) hx hb dL_isSo_126 (by decide) ?_
    refine lv_istore (lv' := [(4, .int 1), (3, .int (ofZ u f 3)), (0, .ref (Q 0)), (1, .int f), (2, .int (nI fr))]) hx hb dL_isSo_130 hl (by decide) rfl (fun ls hl => ?_)
    refine lv_iconst (v := 0) hx hb dL_isSo_132 (by decide) ?_
    refine lv_istore (lv' := [(5, .int 0), (4, .int 1), (3, .int (ofZ u f 3)), (0, .ref (Q 0)), (1, .int f), (2, .int (nI fr))]) hx hb dL_isSo_133 hl (by decide) rfl (fun ls hl => ?_)
    refine W.widen (k := 16) (n := 96) (Nat.le_of_ble_eq_true rfl) (Nat.le_of_ble_eq_true rfl) ?_
    exact kk hP7 hD7 hS7 hl
set_option maxHeartbeats 8000000 in
set_option maxRecDepth 100000 in
theorem isSo_b {p : Program} {l : Launch} {e : Env} {s : State} {m : MethodId} {args : Array Value} {below : List Frame} {meth : Method} {c : Code} {Qz : State → Prop} {dC : Nat → ClassId} {dI : Nat → Nat → Nat} {cY : Nat → ClassId} {Q AD AE HQ : Nat → Nat} {A : Nat → Prop} {H : Heap} {locs : List Loc} {ls : Array Slot} {n fr T j C S9 : Nat} {u : zS} {f d : Int32} (hst : l.stackTraces = false) (B : bdF p s m c args cL_isSo 6 wsL_isSo dC dI cY A) (h : rdZ n fr T u) (hT : T ≤ 1000) (hf : f = 0 ∨ f = 1) (hj : j < 7) (hC : C + 4 ≤ 48) (hS9 : S9 + 24 ≤ 288) (hP : va_P (dC, dI) vwCl (obW cY Q AD AE HQ u) H) (hD : va_D A (obW cY Q AD AE HQ u)) (hS : va_S A s.heap H locs) (hl : lv_has ls 6 [(5, .int (nI j)), (4, .int 1), (3, .int d), (0, .ref (Q 0)), (1, .int f), (2, .int (nI fr))]) (kk : ∀ {v : zS}, rdZ n fr T v → simZ u v → ∀ {H : Heap} {locs : List Loc} {ls : Array Slot}, va_P (dC, dI) vwCl (obW cY Q AD AE HQ v) H → va_D A (obW cY Q AD AE HQ v) → va_S A s.heap H locs → lv_has ls 6 [(5, .int (nI (j + 1))), (4, .int 1), (3, .int d), (0, .ref (Q 0)), (1, .int f), (2, .int (nI fr))] → W p l e ({ frames := 8, cells := 48, slots := 288, locals := 200 } : Room) s m args below meth c H locs (C + 4) (S9 + 24) Qz (F0 m 135 ls [])) : W p l e ({ frames := 8, cells := 48, slots := 288, locals := 200 } : Room) s m args below meth c H locs C S9 Qz (F0 m 135 ls []) := by
  obtain ⟨hx, hb, hml, hown, hts, hK, hN, xn, xt, xz, hA⟩ := B
  refine lv_iload hx hb dL_isSo_135 (lv_at hl 0 rfl) ?_
  refine lv_bipush (v := 7) hx hb dL_isSo_137 (by decide) ?_
  refine lv_icmp_ge (tgt := 178) hx hb dL_isSo_139 (by decide) (fun c9 => absurd c9 (nI_ge (b := 7) hj (by decide))) (fun _ => ?_)
  refine lv_iload hx hb dL_isSo_142 (lv_at hl 1 rfl) ?_
  refine lv_if_eq (tgt := 178) hx hb dL_isSo_144 (by decide) (fun c9 => absurd c9 (by decide)) (fun _ => ?_)
  refine lv_aload_n hx hb dL_isSo_147 rfl (lv_at hl 3 rfl) ?_
  refine lv_iload_n hx hb dL_isSo_148 rfl (lv_at hl 5 rfl) ?_
  refine lv_iload_n hx hb dL_isSo_149 rfl (lv_at hl 4 rfl) ?_
  refine lv_iload hx hb dL_isSo_150 (lv_at hl 0 rfl) ?_
  have hF1 := zF hD hS hA
  refine va_calli (va_runV (As := [.int (nI fr), .int f, .int (nI j)]) (rest := []) ⟨hx, hb, hml, hown, hts⟩ (o_again l dC dI cY Q AD AE HQ h hT (Nat.le_refl fr) hf (show j ≤ 6 by omega) hst H.size) (cwV 3 hts gL_isSo_X7_again rfl rfl rfl (by decide +kernel) ⟨Nat.le_of_ble_eq_true rfl, Nat.le_of_ble_eq_true rfl⟩) ⟨blindX, va_recv hK hP (ci := 7) (q0 := 0) rfl rfl, fun U hU hW => ⟨rfl, xPre_of hP hK hN hD xn xt xz hS hF1 U hU hW⟩⟩ rfl rfl hl.1 rfl (lv_room (Nat.le_of_ble_eq_true rfl)) dL_isSo_152 ⟨by show C + 0 + 2 ≤ 48; omega, by show S9 + 0 + 12 ≤ 288; omega⟩) hS (fun q _ h => hF1 q h) hF1 (fun r1 w1 t1 H1 locs1 ht1 hvm hq1 hB1 hz9 hk9 hS1 => ?_)
  clear hvm hz9 hk9
  obtain ⟨er1, hr1, sm1⟩ := hq1
  subst er1
  obtain ⟨hP1, hD1⟩ := hB1
  rw [ht1] at hP1
  replace hD1 := hD1.weaken (fun _ q _ h => hF1 q.1 h)
  clear hF1 ht1 hP hD hS
  refine lv_aload_n hx hb dL_isSo_155 rfl (lv_at hl 3 rfl) ?_
  refine lv_iload_n hx hb dL_isSo_156 rfl (lv_at hl 4 rfl) ?_
  refine lv_iload hx hb dL_isSo_157 (lv_at hl 0 rfl) ?_
  have hF2 := zF hD1 hS1 hA
  refine va_calli (va_runV (As := [.int f, .int (nI j)]) (rest := [.int (tellZ u fr f (nI j))]) ⟨hx, hb, hml, hown, hts⟩ (o_of l dC dI cY Q AD AE HQ w1 f (nI j) hst (ofx_0 hf (show j ≤ 7 by omega)) H1.size) (cwV 2 hts gL_isSo_X7_of rfl rfl rfl (by decide +kernel) ⟨Nat.le_of_ble_eq_true rfl, Nat.le_of_ble_eq_true rfl⟩) ⟨blindX, va_recv hK hP1 (ci := 7) (q0 := 0) rfl rfl, fun U hU hW => ⟨rfl, xPre_of hP1 hK hN hD1 xn xt xz hS1 hF2 U hU hW⟩⟩ rfl rfl hl.1 rfl (lv_room (Nat.le_of_ble_eq_true rfl)) dL_isSo_159 ⟨by show C + 2 + 2 ≤ 48; omega, by show S9 + 12 + 12 ≤ 288; omega⟩) hS1 (fun q _ h => hF2 q h) hF2 (fun r2 w2 t2 H2 locs2 ht2 hvm hq2 hB2 hz9 hk9 hS2 => ?_)
  clear hvm hz9 hk9
  obtain ⟨er2, ev2⟩ := hq2
  rw [ev2] at hB2
  subst er2
  obtain ⟨hP2, hD2⟩ := hB2
  rw [ht2] at hP2
  replace hD2 := hD2.weaken (fun _ q _ h => hF2 q.1 h)
  clear hF2 ht2 hP1 hD1 hS1
  refine lv_icmp_ne (tgt := 169) hx hb dL_isSo_162 (by decide) (fun c9 => absurd c9 (fun q => q ((tell_of h (show j ≤ 6 by omega)).trans (sm1.of f (nI j)).symm))) (fun _ => ?_)
  refine lv_iconst (v := 1) hx hb dL_isSo_165 (by decide) ?_
  refine lv_goto (tgt := 170) hx hb dL_isSo_166 (by decide) ?_
  refine lv_istore (lv' := [(4, .int 1), (5, .int (nI j)), (3, .int d), (0, .ref (Q 0)), (1, .int f), (2, .int (nI fr))]) hx hb dL_isSo_170 hl (by decide) rfl (fun ls hl => ?_)
  refine lv_iinc (v := (nI (j + 1))) (lv' := [(5, .int (nI (j + 1))), (4, .int 1), (3, .int d), (0, .ref (Q 0)), (1, .int f), (2, .int (nI fr))]) hx hb dL_isSo_172 hl (k := 1) rfl (nI_1 j) (by decide) rfl (fun ls hl => ?_)
  refine lv_goto (tgt := 135) hx hb dL_isSo_175 (by decide) ?_
  have hl := lv_sub hl (l' := [(5, .int (nI (j + 1))), (4, .int 1), (3, .int d), (0, .ref (Q 0)), (1, .int f), (2, .int (nI fr))]) [0, 1, 2, 3, 4, 5] rfl
  exact kk hr1 sm1 hP2 hD2 hS2 hl
set_option maxHeartbeats 8000000 in
set_option maxRecDepth 100000 in
theorem isSo_l {p : Program} {l : Launch} {e : Env} {s : State} {m : MethodId} {args : Array Value} {below : List Frame} {meth : Method} {c : Code} {Qz : State → Prop} {dC : Nat → ClassId} {dI : Nat → Nat → Nat} {cY : Nat → ClassId} {Q AD AE HQ : Nat → Nat} {A : Nat → Prop} {n fr T : Nat} {f d : Int32} (hst : l.stackTraces = false) (B : bdF p s m c args cL_isSo 6 wsL_isSo dC dI cY A) (hT : T ≤ 1000) (hf : f = 0 ∨ f = 1) (k : Nat) : ∀ (j C S9 : Nat) (u : zS) (H : Heap) (locs : List Loc) (ls : Array Slot), j + k = 7 → C + 4 * k ≤ 44 → S9 + 24 * k ≤ 264 → rdZ n fr T u → va_P (dC, dI) vwCl (obW cY Q AD AE HQ u) H → va_D A (obW cY Q AD AE HQ u) → va_S A s.heap H locs → lv_has ls 6 [(5, .int (nI j)), (4, .int 1), (3, .int d), (0, .ref (Q 0)), (1, .int f), (2, .int (nI fr))] → (∀ {v : zS}, rdZ n fr T v → simZ u v → ∀ {H : Heap} {locs : List Loc} {ls : Array Slot}, va_P (dC, dI) vwCl (obW cY Q AD AE HQ v) H → va_D A (obW cY Q AD AE HQ v) → va_S A s.heap H locs → lv_has ls 6 [(5, .int (nI 7)), (4, .int 1), (3, .int d), (0, .ref (Q 0)), (1, .int f), (2, .int (nI fr))] → W p l e ({ frames := 8, cells := 48, slots := 288, locals := 200 } : Room) s m args below meth c H locs 44 264 Qz (F0 m 135 ls [])) → W p l e ({ frames := 8, cells := 48, slots := 288, locals := 200 } : Room) s m args below meth c H locs C S9 Qz (F0 m 135 ls []) := by
  induction k with
  | zero =>
    intro j C S9 u H locs ls hj hC hS9 h hP hD hS hl kk
    have hj : j = 7 := hj
    subst hj
    refine W.widen (k := 44) (n := 264) (by omega) (by omega) ?_
    exact kk h simZ.rf hP hD hS hl
  | succ k ih =>
    intro j C S9 u H locs ls hj hC hS9 h hP hD hS hl kk
    exact isSo_b hst B h hT hf (by omega) (by omega) (by omega) hP hD hS hl (fun {v} hv sv {H locs ls} hP hD hS hl => ih (j + 1) (C + 4) (S9 + 24) v H locs ls (by omega) (by omega) (by omega) hv hP hD hS hl (fun {w} hw sw {H locs ls} hP hD hS hl => kk hw (sv.tr sw) hP hD hS hl))
set_option maxHeartbeats 8000000 in
set_option maxRecDepth 100000 in
theorem c_L_isSo (l : Launch) (dC : Nat → ClassId) (dI : Nat → Nat → Nat) (cY : Nat → ClassId) (Q AD AE HQ : Nat → Nat) {n fr T : Nat} {u : zS} {f : Int32} (h : rdZ n fr T u) (hT : T ≤ 1000) (hf : f = 0 ∨ f = 1) (hst : l.stackTraces = false) (sz : Nat) : oM l yL_isSo wsL_isSo ({ frames := 8, cells := 48, slots := 288, locals := 200 } : Room) [.ref (Q 0), .int f, .int (nI fr)] dC dI cY Q AD AE HQ u (fun r v => r = 1 ∧ rdZ n fr T v ∧ simZ u v) 48 288 sz := by
  refine Met.ofW (cc := cL_isSo) (maxL := 6) (ret := (some .boolean)) (by decide) rfl ?_
  intro p e s m args below meth c s₁ B hml hv
  obtain ⟨rfl, hsz, hP, hK, hN, hD0, xn, xt, xz⟩ := hv
  subst hsz
  have hx := B.exec
  have hb := B.bytes
  have hr := B.returns
  have hts := atoms_spec (ws := wsL_isSo) B.pre
  have hown : s.vm.findClass RL = some m.cls := findClass_of_methodNamed B.named
  have hlocks := B.notSynchronized
  have hD := hD0.self (sz := s.heap.size)
  generalize hAe : va_A (obW cY Q AD AE HQ u) s.heap.size = A at hD xz ⊢
  have hA : ∀ q : Nat, s.heap.size ≤ q → A q := fun q h => by rw [← hAe]; exact Or.inr h
  have hS : va_S A s.heap s.heap [] := va_S.rf
  have BF : bdF p s m c ([.ref (Q 0), .int f, .int (nI fr)]).toArray cL_isSo 6 wsL_isSo dC dI cY A := ⟨hx, hb, hml, hown, hts, hK, hN, xn, xt, xz, hA⟩
  have hl := lv_entry ([.ref (Q 0), .int f, .int (nI fr)]) (n := 6) (Nat.le_of_ble_eq_true rfl)
  rw [lg_entry_eq]
  generalize (lg_sl ([.ref (Q 0), .int f, .int (nI fr)]) ++ List.replicate (6 - (lg_sl ([.ref (Q 0), .int f, .int (nI fr)])).length) Slot.unset).toArray = ls at hl ⊢
  have hl : lv_has ls 6 [(0, .ref (Q 0)), (1, .int f), (2, .int (nI fr))] := hl
  refine isSo_a hst BF h hf hP hD hS hl (fun {H locs ls} hP hD hS hl => ?_)
  refine isSo_l hst BF hT hf 7 0 16 96 u H locs ls rfl (by decide) (by decide) h hP hD hS hl (fun {v} hv sv {H locs ls} hP hD hS hl => ?_)
  obtain ⟨-, -, -, -, -, -, -, -, a7, b7⟩ := of_facts hv hf
  have hx7 : X7_of_x f 7 = 0 := ofx_0 (w := 7) hf (by decide)
  refine lv_iload hx hb dL_isSo_135 (lv_at hl 0 rfl) ?_
  refine lv_bipush (v := 7) hx hb dL_isSo_137 (by decide) ?_
  refine lv_icmp_ge (tgt := 178) hx hb dL_isSo_139 (by decide) (fun _ => ?_) (fun c9 => absurd (by decide) c9)
  refine lv_iload hx hb dL_isSo_178 (lv_at hl 1 rfl) ?_
  refine lv_if_eq (tgt := 208) hx hb dL_isSo_180 (by decide) (fun c9 => absurd c9 (by decide)) (fun _ => ?_)
  refine lv_aload_n hx hb dL_isSo_183 rfl (lv_at hl 3 rfl) ?_
  refine lv_iload_n hx hb dL_isSo_184 rfl (lv_at hl 4 rfl) ?_
  refine lv_bipush (v := 7) hx hb dL_isSo_185 (by decide) ?_
  have hF1 := zF hD hS hA
  refine va_calli (va_runV (As := [.int f, .int 7]) (rest := []) ⟨hx, hb, hml, hown, hts⟩ (o_of l dC dI cY Q AD AE HQ v f 7 hst hx7 H.size) (cwV 2 hts gL_isSo_X7_of rfl rfl rfl (by decide +kernel) ⟨Nat.le_of_ble_eq_true rfl, Nat.le_of_ble_eq_true rfl⟩) ⟨blindX, va_recv hK hP (ci := 7) (q0 := 0) rfl rfl, fun U hU hW => ⟨rfl, xPre_of hP hK hN hD xn xt xz hS hF1 U hU hW⟩⟩ rfl rfl hl.1 rfl (lv_room (Nat.le_of_ble_eq_true rfl)) dL_isSo_187 ⟨Nat.le_of_ble_eq_true rfl, Nat.le_of_ble_eq_true rfl⟩) hS (fun q _ h => hF1 q h) hF1 (fun r1 w1 t1 H1 locs1 ht1 hvm hq1 hB1 hz9 hk9 hS1 => ?_)
  clear hvm hz9 hk9
  obtain ⟨er1, ev1⟩ := hq1
  rw [ev1] at hB1
  subst er1
  obtain ⟨hP1, hD1⟩ := hB1
  rw [ht1] at hP1
  replace hD1 := hD1.weaken (fun _ q _ h => hF1 q.1 h)
  clear hF1 ht1 hP hD hS
  refine lv_if_lt (tgt := 208) hx hb dL_isSo_190 (by decide) (fun c9 => absurd c9 (Int32.not_lt.mpr a7)) (fun _ => ?_)
  refine lv_aload_n hx hb dL_isSo_193 rfl (lv_at hl 3 rfl) ?_
  refine lv_iload_n hx hb dL_isSo_194 rfl (lv_at hl 4 rfl) ?_
  refine lv_bipush (v := 7) hx hb dL_isSo_195 (by decide) ?_
  have hF2 := zF hD1 hS1 hA
  refine va_calli (va_runV (As := [.int f, .int 7]) (rest := []) ⟨hx, hb, hml, hown, hts⟩ (o_of l dC dI cY Q AD AE HQ v f 7 hst hx7 H1.size) (cwV 2 hts gL_isSo_X7_of rfl rfl rfl (by decide +kernel) ⟨Nat.le_of_ble_eq_true rfl, Nat.le_of_ble_eq_true rfl⟩) ⟨blindX, va_recv hK hP1 (ci := 7) (q0 := 0) rfl rfl, fun U hU hW => ⟨rfl, xPre_of hP1 hK hN hD1 xn xt xz hS1 hF2 U hU hW⟩⟩ rfl rfl hl.1 rfl (lv_room (Nat.le_of_ble_eq_true rfl)) dL_isSo_197 ⟨Nat.le_of_ble_eq_true rfl, Nat.le_of_ble_eq_true rfl⟩) hS1 (fun q _ h => hF2 q h) hF2 (fun r2 w2 t2 H2 locs2 ht2 hvm hq2 hB2 hz9 hk9 hS2 => ?_)
  clear hvm hz9 hk9
  obtain ⟨er2, ev2⟩ := hq2
  rw [ev2] at hB2
  subst er2
  obtain ⟨hP2, hD2⟩ := hB2
  rw [ht2] at hP2
  replace hD2 := hD2.weaken (fun _ q _ h => hF2 q.1 h)
  clear hF2 ht2 hP1 hD1 hS1
  refine lv_iconst (v := 2) hx hb dL_isSo_200 (by decide) ?_
  refine lv_icmp_gt (tgt := 208) hx hb dL_isSo_201 (by decide) (fun c9 => absurd c9 (Int32.not_lt.mpr b7)) (fun _ => ?_)
  refine lv_iconst (v := 1) hx hb dL_isSo_204 (by decide) ?_
  refine lv_goto (tgt := 209) hx hb dL_isSo_205 (by decide) ?_
  exact W.zret (v := 1) (ty := .boolean) hx hb hr rfl (fun t ht _ => ⟨⟨_, v, rfl, ⟨rfl, hv, sv⟩, wPost_of hP2 hD2 ht⟩, hS2.F ht⟩) hS2.2.2 dL_isSo_209
