/-! the law's beginning and its loop -/
def ci0 : Nat → Int32 := fun _ => 0
def cf0 : Nat → Nat → Int32 := fun k => if k = 6 ∨ k = 7 ∨ k = 8 ∨ k = 9 then (fun _ => 0) else if k % 2 = 0 then X2_init_w0 (fun _ => 0) 1 else X2_init_w0 (fun _ => 0) 0
def mv0 : Nat → Nat → Int32 := fun _ _ => 0
def g00 : Nat → Int32 := upd (upd (fun _ => 0) 7 (-1)) 10 (-1)
def mf0 : Nat → Nat → Int32 := fun k => if k = 2 then upd (upd (fun _ => 0) 4 (-1)) 15 (-1) else (fun _ => 0)
theorem inv0 : INV 0 ci0 cf0 mv0 mv0 g00 mf0 := by
  refine ⟨0, 0, 0, fun _ => 0, ⟨rfl, rfl, ⟨Nat.zero_le _, fun i hi => absurd hi (Nat.not_lt_zero _), fun i hi => absurd hi (Nat.not_lt_zero _), fun i _ _ j _ => rfl⟩, fun i hi => absurd hi (Nat.not_lt_zero _), fun i hi => absurd hi (Nat.not_lt_zero _), fun i hi => absurd hi (Nat.not_lt_zero _), fun i k => Or.inl rfl⟩, ⟨rfl, Or.inl rfl⟩, ⟨⟨0, Nat.le_refl _, rfl⟩, rfl, rfl, rfl, Or.inl ⟨Or.inl rfl, Or.inl rfl, rfl⟩⟩, ⟨rfl, Nat.zero_le _, Or.inr ⟨rfl, rfl, rfl⟩⟩, ⟨⟨by decide, rfl⟩, ⟨by decide, rfl⟩, ⟨by decide, rfl⟩, fun k hk => ?_⟩, fun w hw => ?_, ⟨by decide, by decide⟩, fun q => absurd rfl q, fun q => absurd rfl q⟩
  · rcases (show k = 0 ∨ k = 1 ∨ k = 2 ∨ k = 3 ∨ k = 4 by omega) with rfl | rfl | rfl | rfl | rfl <;> exact ⟨by decide, rfl⟩
  · rcases (show w = 0 ∨ w = 1 ∨ w = 2 ∨ w = 3 ∨ w = 4 ∨ w = 5 ∨ w = 6 by omega) with rfl | rfl | rfl | rfl | rfl | rfl | rfl <;> exact ⟨by decide, by decide⟩
theorem okS_0 : okS (mf0 2) := ⟨Or.inr (show vp_in (0 : Int32) 6 from vin rfl), Or.inr (show vp_in (0 : Int32) 6 from vin rfl), fun q => absurd q (by decide), fun q => absurd q (by decide)⟩
theorem INV.up {t : Nat} {ci g : Nat → Int32} {cf MV MVR mf : Nat → Nat → Int32} (h : INV t ci cf MV MVR g mf) : INV (t + 1) ci cf MV MVR g mf := by
  have hf : flagOK cf := by
    obtain ⟨n, nR, fr, tbR, a, b, c, d, e, -⟩ := h
    exact e
  exact h.keep (fun _ _ => rfl) rfl rfl rfl rfl hf rfl rfl rfl rfl rfl rfl rfl rfl rfl
theorem law_more {L t : Nat} (hL : L ≤ 3584) (ht : t ≤ 513) : (nI L - 7 < nI (7 * t)) ↔ ¬ 7 * t + 7 ≤ L := by
  rw [Int32.lt_iff_toInt_lt, nI_toInt (by omega)]
  have e1 : (nI L - 7).toInt = (L : Int) - 7 := pk_sub_toInt (a := L) (b := 7) (by omega) (by decide)
  rw [e1]
  omega
theorem and15 (a : Int32) : ∃ k : Nat, k < 16 ∧ a &&& 15 = nI k := by
  refine ⟨a.toBitVec.toNat % 16, Nat.mod_lt _ (by decide), ?_⟩
  apply Int32.toBitVec_inj.mp
  apply BitVec.eq_of_toNat_eq
  rw [Int32.toBitVec_and, BitVec.toNat_and]
  have e1 : (15 : Int32).toBitVec.toNat = 2 ^ 4 - 1 := by decide
  have e2 : (nI (a.toBitVec.toNat % 16)).toBitVec.toNat = a.toBitVec.toNat % 16 := by
    show (BitVec.ofNat 32 (a.toBitVec.toNat % 16)).toNat = _
    rw [BitVec.toNat_ofNat]
    exact Nat.mod_eq_of_lt (by omega)
  rw [e1, e2, Nat.and_two_pow_sub_one_eq_mod]
theorem law_loop {p : Program} {l : Launch} {e : Env} {s : State} {m : MethodId} {below : List Frame} {meth : Method} {c : Code} {b L : Nat} {xs : Nat → Int32} {Qz : State → Prop} {dC : Nat → ClassId} {dI : Nat → Nat → Nat} {cY : Nat → ClassId} {Q AD AE HQ AM : Nat → Nat} (hst : l.stackTraces = false) (F : lawF p s m c b L xs dC dI cY) (hL : L ≤ 3584)
    (kend : ∀ {H1 : Heap} {locs1 : List Loc} {ls1 : Array Slot} {C1 S1 : Nat}, C1 ≤ 601024 → S1 ≤ 7293034 → va_S (fun q => s.heap.size ≤ q) s.heap H1 locs1 → W p l e room_1 s m #[Value.ref b] below meth c H1 locs1 C1 S1 Qz (F0 m 1049 ls1 [])) (n : Nat) :
    ∀ {t : Nat} {ci g : Nat → Int32} {cf MV MVR mf : Nat → Nat → Int32} {o : Nat → Int64} {H : Heap} {locs : List Loc} {ls : Array Slot} {C S9 : Nat}, t + n = 513 → va_P (dC, dI) vwCl (lawW cY Q AD AE HQ AM ci cf MV MVR g mf o) H → va_D (fun q => s.heap.size ≤ q) (lawW cY Q AD AE HQ AM ci cf MV MVR g mf o) → va_S (fun q => s.heap.size ≤ q) s.heap H locs → INV t ci cf MV MVR g mf → okS (mf 2) → C + 8 * n ≤ 601024 → S9 + 48 * n ≤ 7293034 → lv_has ls 7 [(4, .int (nI (7 * t))), (0, .ref b), (1, .ref (Q 0)), (2, .ref (Q 18)), (3, .ref (Q 19))] → W p l e room_1 s m #[Value.ref b] below meth c H locs C S9 Qz (F0 m 23 ls []) := by
  induction n with
  | zero =>
    intro t ci g cf MV MVR mf o H locs ls C S9 htn hP hD hS hI hR hC hC2 hl
    obtain ⟨hx, hb, hml, hown, hts, hX, hbl, hK, hN, xn, xt, xz, ln⟩ := id F
    have hbA : ¬ (fun q => s.heap.size ≤ q) b := Nat.not_le.mpr hbl
    refine lv_iload hx hb dL_law_23 (lv_at hl 0 rfl) ?_
    refine lv_aload_n hx hb dL_law_25 rfl (lv_at hl 1 rfl) ?_
    refine va_slen hx hb hX hbl hbA hS dL_law_26 ?_
    refine lv_bipush (v := 7) hx hb dL_law_27 (by decide) ?_
    refine lv_isub hx hb dL_law_29 ?_
    refine lv_icmp_gt (tgt := 1049) hx hb dL_law_30 (by decide) (fun c1 => ?_) (fun c1 => ?_)
    · exact kend (by omega) (by omega) hS
    · exact absurd ((law_more (t := t) hL (by omega)).mpr (by omega)) c1
  | succ n ih =>
    intro t ci g cf MV MVR mf o H locs ls C S9 htn hP hD hS hI hR hC hC2 hl
    obtain ⟨hx, hb, hml, hown, hts, hX, hbl, hK, hN, xn, xt, xz, ln⟩ := id F
    have hbA : ¬ (fun q => s.heap.size ≤ q) b := Nat.not_le.mpr hbl
    refine lv_iload hx hb dL_law_23 (lv_at hl 0 rfl) ?_
    refine lv_aload_n hx hb dL_law_25 rfl (lv_at hl 1 rfl) ?_
    refine va_slen hx hb hX hbl hbA hS dL_law_26 ?_
    refine lv_bipush (v := 7) hx hb dL_law_27 (by decide) ?_
    refine lv_isub hx hb dL_law_29 ?_
    refine lv_icmp_gt (tgt := 1049) hx hb dL_law_30 (by decide) (fun c1 => ?_) (fun c1 => ?_)
    · exact kend (by omega) (by omega) hS
    · have htL : 7 * t + 7 ≤ L := by
        have q := (law_more (t := t) hL (by omega)).mpr
        exact Decidable.byContradiction fun z => c1 (q z)
      have tail : ∀ {H1 : Heap} {locs1 : List Loc} {ls1 : Array Slot} {ci1 g1 : Nat → Int32} {cf1 MV1 MVR1 mf1 : Nat → Nat → Int32} {o1 : Nat → Int64}, INV (t + 1) ci1 cf1 MV1 MVR1 g1 mf1 → okS (mf1 2) → va_P (dC, dI) vwCl (lawW cY Q AD AE HQ AM ci1 cf1 MV1 MVR1 g1 mf1 o1) H1 → va_D (fun q => s.heap.size ≤ q) (lawW cY Q AD AE HQ AM ci1 cf1 MV1 MVR1 g1 mf1 o1) → va_S (fun q => s.heap.size ≤ q) s.heap H1 locs1 → lv_has ls1 7 [(4, .int (nI (7 * t))), (0, .ref b), (1, .ref (Q 0)), (2, .ref (Q 18)), (3, .ref (Q 19))] → W p l e room_1 s m #[Value.ref b] below meth c H1 locs1 (C + 8) (S9 + 48) Qz (F0 m 1043 ls1 []) := by
        intro H1 locs1 ls1 ci1 g1 cf1 MV1 MVR1 mf1 o1 hI1 hR1 hP1 hD1 hS1 hl1
        refine lv_iinc (v := nI (7 * (t + 1))) (lv' := [(4, .int (nI (7 * (t + 1)))), (0, .ref b), (1, .ref (Q 0)), (2, .ref (Q 18)), (3, .ref (Q 19))]) hx hb dL_law_1043 hl1 (k := 0) rfl (by rw [show Int32.ofInt 7 = nI 7 from rfl, nI_add]; rfl) (by decide) rfl (fun ls2 hl2 => ?_)
        refine lv_goto (tgt := 23) hx hb dL_law_1046 (by decide) ?_
        exact ih (t := t + 1) (by omega) hP1 hD1 hS1 hI1 hR1 (by omega) (by omega) hl2
      have tail0 : ∀ {ls1 : Array Slot}, lv_has ls1 7 [(4, .int (nI (7 * t))), (0, .ref b), (1, .ref (Q 0)), (2, .ref (Q 18)), (3, .ref (Q 19))] → W p l e room_1 s m #[Value.ref b] below meth c H locs C S9 Qz (F0 m 1043 ls1 []) := by
        intro ls1 hl1
        refine W.widen (k := C + 8) (n := S9 + 48) (by omega) (by omega) ?_
        exact tail hI.up hR hP hD hS hl1
      refine lv_aload_n hx hb dL_law_33 rfl (lv_at hl 1 rfl) ?_
      refine lv_iload hx hb dL_law_34 (lv_at hl 0 rfl) ?_
      refine va_sld hx hb hX hbl hbA hS (vp_in_nI (by omega) (by omega)) dL_law_36 ?_
      refine lv_bipush (v := 15) hx hb dL_law_37 (by decide) ?_
      refine lv_iand hx hb dL_law_39 ?_
      obtain ⟨k, hk, ek⟩ := and15 (xs (nI (7 * t)).toNatClampNeg)
      rw [ek]
      have hC8 : C + 8 ≤ 601024 := by omega
      have hS48 : S9 + 48 ≤ 7293034 := by omega
      rcases (show k = 0 ∨ k = 1 ∨ k = 2 ∨ k = 3 ∨ k = 4 ∨ k = 5 ∨ k = 6 ∨ k = 7 ∨ k = 8 ∨ k = 9 ∨ k = 10 ∨ k = 11 ∨ k = 12 ∨ 13 ≤ k by omega) with rfl | rfl | rfl | rfl | rfl | rfl | rfl | rfl | rfl | rfl | rfl | rfl | rfl | hk13
      · refine lv_tableIn (off := 68) (tgt := 108) hx hb dL_law_40 (by decide) (by decide) rfl (by decide) ?_
        exact law_move hst F hL htL hP hD hS hI hR hC8 hS48 hl tail
      · refine lv_tableIn (off := 186) (tgt := 226) hx hb dL_law_40 (by decide) (by decide) rfl (by decide) ?_
        exact law_patch hst F hL htL hP hD hS hI hR hC8 hS48 hl tail
      · refine lv_tableIn (off := 266) (tgt := 306) hx hb dL_law_40 (by decide) (by decide) rfl (by decide) ?_
        by_cases z9 : xs (nI (7 * t) + 3).toNatClampNeg = 0
        · exact law_cancel0 hst F hL htL hP hD hS hI hR hC8 hS48 hl rfl z9 tail
        · exact law_cancel1 hst F hL htL hP hD hS hI hR hC8 hS48 hl rfl z9 tail
      · refine lv_tableIn (off := 369) (tgt := 409) hx hb dL_law_40 (by decide) (by decide) rfl (by decide) ?_
        exact law_begin hst F hL htL hP hD hS hI hR hC8 hS48 hl tail
      · refine lv_tableIn (off := 425) (tgt := 465) hx hb dL_law_40 (by decide) (by decide) rfl (by decide) ?_
        exact law_play hst F hL htL hP hD hS hI hR hC8 hS48 hl tail
      · refine lv_tableIn (off := 505) (tgt := 545) hx hb dL_law_40 (by decide) (by decide) rfl (by decide) ?_
        exact law_of hst F hL htL hP hD hS hI hR hC8 hS48 hl tail
      · refine lv_tableIn (off := 573) (tgt := 613) hx hb dL_law_40 (by decide) (by decide) rfl (by decide) ?_
        exact law_again hst F hL htL hP hD hS hI hR hC8 hS48 hl tail
      · refine lv_tableIn (off := 653) (tgt := 693) hx hb dL_law_40 (by decide) (by decide) rfl (by decide) ?_
        exact law_goesOn hst F hL htL hP hD hS hI hR hC8 hS48 hl tail
      · refine lv_tableIn (off := 666) (tgt := 706) hx hb dL_law_40 (by decide) (by decide) rfl (by decide) ?_
        exact law_winner hst F hL htL hP hD hS hI hR hC8 hS48 hl tail
      · refine lv_tableIn (off := 679) (tgt := 719) hx hb dL_law_40 (by decide) (by decide) rfl (by decide) ?_
        by_cases z9 : xs (nI (7 * t) + 2).toNatClampNeg = 0
        · exact law_advantage0 hst F hL htL hP hD hS hI hR hC8 hS48 hl rfl z9 tail
        · exact law_advantage1 hst F hL htL hP hD hS hI hR hC8 hS48 hl rfl z9 tail
      · refine lv_tableIn (off := 763) (tgt := 803) hx hb dL_law_40 (by decide) (by decide) rfl (by decide) ?_
        exact law_punish hst F hL htL hP hD hS hI hR hC8 hS48 hl tail
      · refine lv_tableIn (off := 831) (tgt := 871) hx hb dL_law_40 (by decide) (by decide) rfl (by decide) ?_
        exact law_most hst F hL htL hP hD hS hI hR hC8 hS48 hl tail
      · refine lv_tableIn (off := 911) (tgt := 951) hx hb dL_law_40 (by decide) (by decide) rfl (by decide) ?_
        exact law_mostAt hst F hL htL hP hD hS hI hR hC8 hS48 hl tail
      · refine lv_tableOut (tgt := 1043) hx hb dL_law_40 (Or.inr (by rw [nI_toInt (by omega)]; omega)) (by decide) ?_
        exact tail0 hl
