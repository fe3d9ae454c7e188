/-! the law, a piece of its walk -/
set_option maxHeartbeats 8000000 in
set_option maxRecDepth 100000 in
theorem law_T {p : Program} {l : Launch} {e : Env} {s : State} {m : MethodId} {args : Array Value} {below : List Frame} {meth : Method} {c : Code} {Qz : State → Prop} {dC : Nat → ClassId} {dI : Nat → Nat → Nat} {cY : Nat → ClassId} {Q AD AE HQ : Nat → Nat} {A : Nat → Prop} {H : Heap} {locs : List Loc} {ls : Array Slot} {n fr T ea i C S9 : Nat} {pl : Int32} {u : zS} {b L : Nat} {xs : Nat → Int32} (hL : L ≤ 260) (hX : va_X b L xs s s.heap) (hbl : b < s.heap.size) (hbA : ¬ A b) (hst : l.stackTraces = false) (B : bdF p s m c args cL_law 12 wsL_law dC dI cY A) (hi : i < 40) (h : rdZ n fr T u) (hT : T ≤ i + 1) (hea : ea ≤ fr) (hgo0 : ea = 0 → u.1 0 = 1) (hpl : 1 ≤ ea → pl = tellZ u ea 0 (nI 0)) (hC : C + 118 ≤ 600000) (hS9 : S9 + 708 ≤ 7301000) (hP : va_P (dC, dI) vwCl (obW cY Q AD AE HQ u) H) (hD : va_D A (obW cY Q AD AE HQ u)) (hS : va_S A s.heap H locs) (hl : lv_has ls 12 [(7, .int (nI i)), (3, .int 1), (4, .int (nI fr)), (5, .int (nI ea)), (6, .int pl), (0, .ref b), (1, .ref (Q 0)), (2, .int (nI n))]) (kk : ∀ {v : zS} {f1 T1 ea1 : Nat} {pl1 : Int32}, rdZ n f1 T1 v → T1 ≤ i + 2 → ea1 ≤ f1 → (ea1 = 0 → v.1 0 = 1) → (1 ≤ ea1 → pl1 = tellZ v ea1 0 (nI 0)) → ∀ {H : Heap} {locs : List Loc} {ls : Array Slot}, va_P (dC, dI) vwCl (obW cY Q AD AE HQ v) H → va_D A (obW cY Q AD AE HQ v) → va_S A s.heap H locs → lv_has ls 12 [(7, .int (nI (i + 1))), (3, .int 1), (4, .int (nI f1)), (5, .int (nI ea1)), (6, .int pl1), (0, .ref b), (1, .ref (Q 0)), (2, .int (nI n))] → W p l e room_1 s m args below meth c H locs (C + 118) (S9 + 708) Qz (F0 m 69 ls [])) : W p l e room_1 s m args below meth c H locs C S9 Qz (F0 m 69 ls []) := by
  have B0 := B
  obtain ⟨hx, hb, hml, hown, hts, hK, hN, xn, xt, xz, hA⟩ := B
  refine lv_iload hx hb dL_law_69 (lv_at hl 0 rfl) ?_
  refine lv_bipush (v := 40) hx hb dL_law_71 (by decide) ?_
  refine lv_icmp_ge (tgt := 407) hx hb dL_law_73 (by decide) (fun c9 => absurd c9 (nI_ge (b := 40) hi (by decide))) (fun _ => ?_)
  refine lv_iload_n hx hb dL_law_76 rfl (lv_at hl 1 rfl) ?_
  refine lv_if_eq (tgt := 407) hx hb dL_law_77 (by decide) (fun c9 => absurd c9 (by decide)) (fun _ => ?_)
  refine lv_aload_n hx hb dL_law_80 rfl (lv_at hl 5 rfl) ?_
  refine lv_bipush (v := 32) hx hb dL_law_81 (by decide) ?_
  refine lv_iload hx hb dL_law_83 (lv_at hl 0 rfl) ?_
  refine lv_iadd hx hb dL_law_85 ?_
  refine lv_topi (fun x1 ex1 => ?_)
  obtain rfl : x1 = (nI (32 + i)) := ex1.trans (nI_add 32 i)
  refine vp_callSi (W.runS (As := [.ref b, .int (nI (32 + i))]) (rest := []) ⟨hx, hb, hml, hown, hts⟩ (c_L_told l (b := b) (L := L) (k := (32 + i)) (xs := xs) hL (by omega)) (va_cwS 2 hts gL_law_L_told rfl rfl rfl (by decide +kernel) ⟨Nat.le_of_ble_eq_true rfl, Nat.le_of_ble_eq_true rfl⟩) ⟨blindT, fun U hU hW => ⟨rfl, zX hX hbl hbA hS U hU hW⟩⟩ rfl rfl hl.1 rfl (lv_room (Nat.le_of_ble_eq_true rfl)) dL_law_86 ⟨by show C + 0 + 0 ≤ 600074; omega, by show S9 + 0 + 0 ≤ 7301550; omega⟩) (fun r92 hw9 => ?_)
  obtain ⟨v, hv, rfl⟩ := hw9
  refine lv_istore (lv' := [(8, .int (nI v)), (7, .int (nI i)), (3, .int 1), (4, .int (nI fr)), (5, .int (nI ea)), (6, .int pl), (0, .ref b), (1, .ref (Q 0)), (2, .int (nI n))]) hx hb dL_law_89 hl (by decide) rfl (fun ls hl => ?_)
  refine lv_aload_n hx hb dL_law_91 rfl (lv_at hl 7 rfl) ?_
  have hF1 := zF hD hS hA
  refine va_calli (va_runV (As := []) (rest := []) ⟨hx, hb, hml, hown, hts⟩ (o_goesOn l dC dI cY Q AD AE HQ u (go_facts h).1 H.size) (cwV 0 hts gL_law_X7_goesOn rfl rfl rfl (by decide +kernel) ⟨Nat.le_of_ble_eq_true rfl, Nat.le_of_ble_eq_true rfl⟩) ⟨blindX, va_recv hK hP (ci := 7) (q0 := 0) rfl rfl, fun U hU hW => ⟨rfl, xPre_of hP hK hN hD xn xt xz hS hF1 U hU hW⟩⟩ rfl rfl hl.1 rfl (lv_room (Nat.le_of_ble_eq_true rfl)) dL_law_92 ⟨by show C + 0 + 0 ≤ 600074; omega, by show S9 + 0 + 0 ≤ 7301550; omega⟩) hS (fun q _ h => hF1 q h) hF1 (fun r1 w1 t1 H1 locs1 ht1 hvm hq1 hB1 hz9 hk9 hS1 => ?_)
  clear hvm hz9 hk9
  obtain ⟨er1, ev1⟩ := hq1
  rw [ev1] at hB1
  subst er1
  obtain ⟨hP1, hD1⟩ := hB1
  rw [ht1] at hP1
  replace hD1 := hD1.weaken (fun _ q _ h => hF1 q.1 h)
  clear hF1 ht1 hP hD hS
  by_cases hgo : u.1 0 = 0
  · refine lv_if_ne (tgt := 182) hx hb dL_law_95 (by decide) (fun c9 => absurd c9 (fun q => q hgo)) (fun _ => ?_)
    refine law_B hL hX hbl hbA hst B0 h (by omega) hgo hv (by omega) (by omega) hP1 hD1 hS1 hl (fun {w pl1} hw go1 hp1 {H locs ls} hP hD hS hl => ?_)
    refine law_A hL hX hbl hbA hst B0 hw (by omega) (Nat.le_refl _) hp1 (by omega) (by omega) hP hD hS hl (fun {x} hx9 sx {H locs ls} hP hD hS hl => ?_)
    refine W.widen (k := C + 118) (n := S9 + 708) (by omega) (by omega) ?_
    exact kk hx9 (by omega) (Nat.le_refl _) (fun _ => by rw [sx.1]; exact go1) (fun q => absurd q (by decide)) hP hD hS hl
  · refine lv_if_ne (tgt := 182) hx hb dL_law_95 (by decide) (fun _ => ?_) (fun c9 => absurd c9 hgo)
    refine law_P hL hX hbl hbA hst B0 h (by omega) hgo hv hea hpl (by omega) (by omega) hP1 hD1 hS1 hl (fun {w pl1 f1 ea1} hw hea1 he1 hp1 {H locs ls} hP hD hS hl => ?_)
    refine law_A hL hX hbl hbA hst B0 hw (by omega) hea1 hp1 (by omega) (by omega) hP hD hS hl (fun {x} hx9 sx {H locs ls} hP hD hS hl => ?_)
    refine W.widen (k := C + 118) (n := S9 + 708) (by omega) (by omega) ?_
    exact kk hx9 (by omega) hea1 (fun q => by omega) (fun _ => hp1.trans (sx.tl ea1 0 (nI 0)).symm) hP hD hS hl
set_option maxHeartbeats 8000000 in
set_option maxRecDepth 100000 in
theorem law_l {p : Program} {l : Launch} {e : Env} {s : State} {m : MethodId} {args : Array Value} {below : List Frame} {meth : Method} {c : Code} {Qz : State → Prop} {dC : Nat → ClassId} {dI : Nat → Nat → Nat} {cY : Nat → ClassId} {Q AD AE HQ : Nat → Nat} {A : Nat → Prop} {n : Nat} {b L : Nat} {xs : Nat → Int32} (hL : L ≤ 260) (hX : va_X b L xs s s.heap) (hbl : b < s.heap.size) (hbA : ¬ A b) (hst : l.stackTraces = false) (B : bdF p s m c args cL_law 12 wsL_law dC dI cY A) (k : Nat) : ∀ (i C S9 fr T ea : Nat) (pl : Int32) (u : zS) (H : Heap) (locs : List Loc) (ls : Array Slot), i + k = 40 → C + 118 * k ≤ 6000 → S9 + 708 * k ≤ 60000 → rdZ n fr T u → T ≤ i + 1 → ea ≤ fr → (ea = 0 → u.1 0 = 1) → (1 ≤ ea → pl = tellZ u ea 0 (nI 0)) → va_P (dC, dI) vwCl (obW cY Q AD AE HQ u) H → va_D A (obW cY Q AD AE HQ u) → va_S A s.heap H locs → lv_has ls 12 [(7, .int (nI i)), (3, .int 1), (4, .int (nI fr)), (5, .int (nI ea)), (6, .int pl), (0, .ref b), (1, .ref (Q 0)), (2, .int (nI n))] → (∀ {v : zS} {f1 ea1 : Nat} {pl1 : Int32}, lbZ n v → ∀ {H : Heap} {locs : List Loc} {ls : Array Slot}, va_P (dC, dI) vwCl (obW cY Q AD AE HQ v) H → va_D A (obW cY Q AD AE HQ v) → va_S A s.heap H locs → lv_has ls 12 [(7, .int (nI 40)), (3, .int 1), (4, .int (nI f1)), (5, .int (nI ea1)), (6, .int pl1), (0, .ref b), (1, .ref (Q 0)), (2, .int (nI n))] → W p l e room_1 s m args below meth c H locs 6000 60000 Qz (F0 m 69 ls [])) → W p l e room_1 s m args below meth c H locs C S9 Qz (F0 m 69 ls []) := by
  induction k with
  | zero =>
    intro i C S9 fr T ea pl u H locs ls hi hC hS9 h hT hea hgo hpl hP hD hS hl kk
    have hi : i = 40 := hi
    subst hi
    refine W.widen (k := 6000) (n := 60000) (by omega) (by omega) ?_
    exact kk h.lb hP hD hS hl
  | succ k ih =>
    intro i C S9 fr T ea pl u H locs ls hi hC hS9 h hT hea hgo hpl hP hD hS hl kk
    exact law_T hL hX hbl hbA hst B (by omega) h hT hea hgo hpl (by omega) (by omega) hP hD hS hl (fun {v f1 T1 ea1 pl1} hv hT1 hea1 hgo1 hpl1 {H locs ls} hP hD hS hl => ih (i + 1) (C + 118) (S9 + 708) f1 T1 ea1 pl1 v H locs ls (by omega) (by omega) (by omega) hv (by omega) hea1 hgo1 hpl1 hP hD hS hl kk)
