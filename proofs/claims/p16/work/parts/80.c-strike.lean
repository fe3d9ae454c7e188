/-! pure: bounds through a strike and a frame's end -/
theorem gb_at {F : Nat → Int32} {x : Int32} {k : Nat} (h : k ≠ 0) : X2_goBack_w0 F x k = F k := by unfold X2_goBack_w0; exact upd_n _ _ h
theorem gbL_B {F : Nat → Int32} {x : Int32} (f15 : ¬ F 15 = 0) (h0 : 0 ≤ (F 0).toInt) (h1 : (F 0).toInt ≤ 600) (x0 : 0 ≤ x.toInt) (x1 : x.toInt ≤ 600) : (0 ≤ (X2_goBack_w0 F x 0).toInt ∧ (X2_goBack_w0 F x 0).toInt ≤ (F 0).toInt) ∧ 0 ≤ (X2_goBack_r F x).toInt ∧ (X2_goBack_r F x).toInt ≤ x.toInt := by
  unfold X2_goBack_w0 X2_goBack_r X2_goBack_j52 X2_goBack_j33 X2_goBack_j22
  rw [if_neg f15, if_neg f15, upd_s]
  by_cases c : F 0 ≤ x
  · rw [if_pos c]
    rw [zi_le] at c
    have en : (-(F 0)).toInt = -(F 0).toInt := by
      rw [Int32.toInt_neg]
      exact Int.bmod_eq_of_le (by omega) (by omega)
    rw [zi_add (by rw [en]; omega) (by rw [en]; omega), zi_sub (by omega) (by omega), en]
    omega
  · rw [if_neg c]
    rw [zi_le] at c
    have en : (-x).toInt = -x.toInt := by
      rw [Int32.toInt_neg]
      exact Int.bmod_eq_of_le (by omega) (by omega)
    rw [zi_add (by rw [en]; omega) (by rw [en]; omega), zi_sub (by omega) (by omega), en]
    omega
theorem gbR_B {F : Nat → Int32} {x : Int32} (f15 : F 15 = 0) (h0 : 0 ≤ (F 0).toInt) (h1 : (F 0).toInt ≤ 600) (x0 : 0 ≤ x.toInt) (x1 : x.toInt ≤ 600) : ((F 0).toInt ≤ (X2_goBack_w0 F x 0).toInt ∧ (X2_goBack_w0 F x 0).toInt ≤ 600) ∧ 0 ≤ (X2_goBack_r F x).toInt ∧ (X2_goBack_r F x).toInt ≤ x.toInt := by
  have e600 : (600 : Int32).toInt = 600 := rfl
  have es : (600 - F 0).toInt = 600 - (F 0).toInt := by rw [zi_sub (by omega) (by omega), e600]
  unfold X2_goBack_w0 X2_goBack_r X2_goBack_j52 X2_goBack_j33 X2_goBack_j22
  rw [if_pos f15, if_pos f15, upd_s]
  generalize 600 - F 0 = y at es ⊢
  by_cases c : y ≤ x
  · rw [if_pos c]
    rw [zi_le] at c
    rw [zi_add (by omega) (by omega), zi_sub (by omega) (by omega)]
    omega
  · rw [if_neg c]
    rw [zi_le] at c
    rw [zi_add (by omega) (by omega), zi_sub (by omega) (by omega)]
    omega
theorem touch_B {F : Nat → Int32} {v : Nat} {g : Int32} (h : mtB F) (hv : v ≤ 60) (eg : g = nI v) : ∃ m, m ≤ 100 ∧ X2_touch_j28 F g = nI m := by
  obtain ⟨m, hm, em⟩ := h
  unfold X2_touch_j28
  rw [em, eg, nI_add]
  split
  · rename_i c
    exact ⟨m + v, (nI_leI (b := 100) (by omega) (by decide)).mp c, rfl⟩
  · exact ⟨100, by decide, rfl⟩
theorem land0_k {F G : Nat → Int32} {MV : Nat → Nat → Int32} {i k : Nat} (h : k ∉ [0, 2, 7]) : X1_land_w0 F G MV i k = F k := by
  simp only [List.mem_cons, List.not_mem_nil, or_false, not_or] at h
  unfold X1_land_w0
  rw [gb_at h.1]
  unfold X2_touch_w0
  rw [upd_n _ _ h.2.1, upd_n _ _ h.2.2]
theorem land0_B {t n i : Nat} {F G : Nat → Int32} {MV : Nat → Nat → Int32} (h : fgB t n F) (hv : ∃ v, v ≤ 60 ∧ X4_trait_r (MV i) 4 = nI v) : fgB t n (X1_land_w0 F G MV i) := by
  obtain ⟨d, k, m⟩ := h
  obtain ⟨v, hv, ev⟩ := hv
  unfold fgB dsB kpB mtB
  rw [land0_k (by decide), land0_k (by decide), land0_k (by decide), land0_k (by decide), land0_k (by decide)]
  refine ⟨d, k, ?_⟩
  obtain ⟨q, hq, eq⟩ := touch_B m hv ev
  refine ⟨q, hq, ?_⟩
  unfold X1_land_w0
  rw [gb_at (by decide)]
  exact eq
theorem suffer_B {t : Nat} {G : Nat → Int32} (h14 : ∃ c, c ≤ t ∧ G 14 = nI c) : ∃ c1, 1 ≤ c1 ∧ c1 ≤ t + 1 ∧ X2_suffer_j33 G = nI c1 ∧ ((∃ c, c1 = c + 1 ∧ G 14 = nI c) ∨ c1 = 1) := by
  obtain ⟨c, hc, ec⟩ := h14
  unfold X2_suffer_j33
  split
  · exact ⟨c + 1, by omega, by omega, by rw [ec, nI_1], Or.inl ⟨c, rfl, ec⟩⟩
  · exact ⟨1, by omega, by omega, rfl, Or.inr rfl⟩
theorem sub_two (L D : Nat) : (1000 : Int32) - nI L - nI D = 1000 - nI (L + D) := by
  rw [← nI_add, Int32.sub_eq_add_neg, Int32.sub_eq_add_neg, Int32.sub_eq_add_neg, Int32.neg_add, Int32.sub_eq_add_neg, Int32.add_assoc]
theorem stun_B {t i : Nat} {G : Nat → Int32} {MV : Nat → Nat → Int32} (ht : t ≤ 2000) (h14 : ∃ c, c ≤ t ∧ G 14 = nI c) (hv : ∃ v, v ≤ 60 ∧ X4_trait_r (MV i) 0 = nI v) : ∃ k, k ≤ 64 ∧ X2_suffer_j132 G MV i = nI k := by
  obtain ⟨c1, h1, h2, e1, -⟩ := suffer_B h14
  obtain ⟨v, hv, ev⟩ := hv
  have e4 : (4 : Int32).toInt = 4 := rfl
  have ep : 2 * (X2_suffer_j33 G - 1) = nI (2 * (c1 - 1)) := by
    rw [e1, show (1 : Int32) = nI 1 from rfl, pk_sub h1, show (2 : Int32) = nI 2 from rfl, pk_mul]
  have es : (nI v - nI (2 * (c1 - 1))).toInt = (v : Int) - (2 * (c1 - 1) : Nat) := pk_sub_toInt (by omega) (by omega)
  have ej : (X2_suffer_j100 G MV i).toInt ≤ 64 := by
    unfold X2_suffer_j100
    rw [ev, ep]
    split
    · rw [es]; omega
    · rw [zi_add (by rw [es, e4]; omega) (by rw [es, e4]; omega), es, e4]; omega
  unfold X2_suffer_j132
  split
  · rename_i c
    rw [zi_le, show (0 : Int32).toInt = 0 from rfl] at c
    exact zi_nat c ej
  · exact ⟨0, by decide, rfl⟩
theorem loss_B {t i : Nat} {G : Nat → Int32} {MV : Nat → Nat → Int32} (ht : t ≤ 2000) (h14 : ∃ c, c ≤ t ∧ G 14 = nI c) (hd : ∃ d, 1 ≤ d ∧ d ≤ 200 ∧ MV i 5 = nI d) : ∃ D, D ≤ 240 ∧ X2_suffer_j100_1 G MV i = nI D ∧ (X2_suffer_j33 G = nI 1 → 1 ≤ D) := by
  obtain ⟨c1, h1, h2, e1, -⟩ := suffer_B h14
  obtain ⟨d, hd1, hd, ed⟩ := hd
  have e56 : ∃ q, q ≤ 10 ∧ X2_suffer_j56 G = nI q ∧ (c1 = 1 → q = 10) := by
    unfold X2_suffer_j56
    rw [e1]
    split
    · rename_i q
      have q1 : 10 ≤ c1 := (nI_leI (a := 10) (by decide) (by omega)).mp q
      exact ⟨1, by omega, rfl, fun z => by omega⟩
    · rename_i q
      have q1 : ¬ 10 ≤ c1 := fun z => q ((nI_leI (a := 10) (by decide) (by omega)).mpr z)
      exact ⟨11 - c1, by omega, by rw [show (11 : Int32) = nI 11 from rfl, pk_sub (by omega)], fun z => by omega⟩
  obtain ⟨q, hq, eq, q10⟩ := e56
  have hm : d * q ≤ 200 * 10 := Nat.mul_le_mul hd hq
  have e11 : X2_suffer_j33 G = nI 1 → c1 = 1 := fun z => (nI_eq (by omega) (by omega)).mp (e1.symm.trans z)
  unfold X2_suffer_j100_1
  rw [ed, eq, pk_mul, show (10 : Int32) = nI 10 from rfl, pk_div (by omega) (by omega) (by omega)]
  split
  · refine ⟨d * q / 10, by omega, rfl, fun z => ?_⟩
    rw [q10 (e11 z)]
    omega
  · rw [show (6 : Int32) = nI 6 from rfl, show (5 : Int32) = nI 5 from rfl, pk_mul, pk_div (by omega) (by omega) (by omega)]
    refine ⟨_, by omega, rfl, fun z => ?_⟩
    rw [q10 (e11 z)]
    omega
theorem land1_k {G : Nat → Int32} {MV : Nat → Nat → Int32} {i k : Nat} (h : k ∉ [0, 1, 3, 4, 5, 6, 7, 8]) : X1_land_w1 G MV i k = G k := by
  simp only [List.mem_cons, List.not_mem_nil, or_false, not_or] at h
  obtain ⟨k0, k1, k3, k4, k5, k6, k7, k8⟩ := h
  unfold X1_land_w1
  rw [gb_at k0]
  unfold X1_land_j30
  split
  · simp [X2_suffer_w0, X2_leaveMove_w0, upd, k1, k3, k4, k5, k6, k7, k8]
  · simp [X2_block_w0, upd, k1, k3, k8]
theorem land1_B {t n L i : Nat} {G : Nat → Int32} {MV : Nat → Nat → Int32} (ht : t ≤ 2000) (h : fgB t n G) (hl : lfB t L G) (h14 : G 14 = G 4) (h13 : G 13 = 0 ∨ G 13 = 3 → G 5 = -1)
    (hd : ∃ d, 1 ≤ d ∧ d ≤ 200 ∧ MV i 5 = nI d) (hv : ∃ v, v ≤ 60 ∧ X4_trait_r (MV i) 0 = nI v) (hw : ∃ v, v ≤ 60 ∧ X4_trait_r (MV i) 1 = nI v) : fgB t n (X1_land_w1 G MV i) ∧ ∃ L1, L ≤ L1 ∧ lfB (t + 1) L1 (X1_land_w1 G MV i) := by
  obtain ⟨⟨c, hc, ec, hcL⟩, hL, e1⟩ := hl
  have hc14 : ∃ c, c ≤ t ∧ G 14 = nI c := ⟨c, hc, h14.trans ec⟩
  obtain ⟨d, k, m⟩ := h
  have g2 : X1_land_w1 G MV i 2 = G 2 := land1_k (by decide)
  have g9 : X1_land_w1 G MV i 9 = G 9 := land1_k (by decide)
  have gk : ∀ k, k ≠ 0 → X1_land_w1 G MV i k = X1_land_j30 G MV i k := fun k hk => by unfold X1_land_w1; exact gb_at hk
  by_cases cb : X2_blocks_r G (MV i) = 0
  · have ej : X1_land_j30 G MV i = X2_suffer_w0 G MV i := by unfold X1_land_j30; rw [if_pos cb]
    obtain ⟨c1, h1, h2, ec1, hc1⟩ := suffer_B hc14
    obtain ⟨D, hD, eD, hD1⟩ := loss_B ht hc14 hd
    constructor
    · refine ⟨Or.inr (Or.inr ⟨Or.inl ?_, ?_, ?_⟩), ?_, ?_⟩
      · rw [gk 3 (by decide), ej]; rfl
      · rw [gk 5 (by decide), ej]; rfl
      · rw [gk 8 (by decide), ej]; exact stun_B ht hc14 hv
      · unfold kpB; rw [g9]; exact k
      · unfold mtB; rw [g2]; exact m
    · refine ⟨L + D, by omega, ⟨c1, h2, ?_, fun _ => ?_⟩, by omega, ?_⟩
      · rw [gk 4 (by decide), ej]; exact ec1
      · rcases hc1 with ⟨c', e', ec'⟩ | e'
        · have ecc : c' = c := by
            have := ec'.symm.trans (h14.trans ec)
            by_cases hb : c' < 2 ^ 31
            · exact (nI_eq hb (by omega)).mp this
            · omega
          rcases Nat.eq_zero_or_pos c with hz | hz
          · have : 1 ≤ D := hD1 (by rw [ec1, e', ecc, hz])
            omega
          · have := hcL hz
            omega
        · have : 1 ≤ D := hD1 (by rw [ec1, e'])
          omega
      · rw [gk 1 (by decide), ej]
        show G 1 - X2_suffer_j100_1 G MV i = _
        rw [eD, e1, sub_two]
  · have ej : X1_land_j30 G MV i = X2_block_w0 G MV i := by unfold X1_land_j30; rw [if_neg cb]
    have hb : G 13 = 0 ∨ G 13 = 3 := by
      unfold X2_blocks_r at cb
      by_cases q0 : G 13 = 0
      · exact Or.inl q0
      · rw [if_neg q0] at cb
        by_cases q3 : G 13 = 3
        · exact Or.inr q3
        · rw [if_neg q3] at cb
          exact absurd rfl cb
    obtain ⟨d1, hd1, hd2, ed⟩ := hd
    obtain ⟨w, hw2, ew⟩ := hw
    constructor
    · refine ⟨Or.inr (Or.inr ⟨Or.inr ?_, ?_, w, by omega, ?_⟩), ?_, ?_⟩
      · rw [gk 3 (by decide), ej]; rfl
      · rw [gk 5 (by decide), ej]; exact h13 hb
      · rw [gk 8 (by decide), ej]; exact ew
      · unfold kpB; rw [g9]; exact k
      · unfold mtB; rw [g2]; exact m
    · refine ⟨L + d1 / 10, by omega, ⟨c, by omega, ?_, fun q => ?_⟩, by omega, ?_⟩
      · rw [gk 4 (by decide), ej]; exact ec
      · have := hcL q
        omega
      · rw [gk 1 (by decide), ej]
        show G 1 - MV i 5 / 10 = _
        rw [ed, e1, show (10 : Int32) = nI 10 from rfl, pk_div (by omega) (by omega) (by omega), sub_two]
theorem part_k {F : Nat → Int32} {k : Nat} (h : k ∉ [0, 2, 7]) : X2_goBack_w0 (X2_touch_w0 F 0) 20 k = F k := by
  simp only [List.mem_cons, List.not_mem_nil, or_false, not_or] at h
  rw [gb_at h.1]
  unfold X2_touch_w0
  rw [upd_n _ _ h.2.1, upd_n _ _ h.2.2]
theorem part_B {t n : Nat} {F : Nat → Int32} (h : fgB t n F) : fgB t n (X2_goBack_w0 (X2_touch_w0 F 0) 20) := by
  obtain ⟨d, k, m⟩ := h
  unfold fgB dsB kpB mtB
  rw [part_k (by decide), part_k (by decide), part_k (by decide), part_k (by decide), part_k (by decide), gb_at (by decide)]
  exact ⟨d, k, touch_B (v := 0) (g := 0) m (by decide) rfl⟩
theorem reachL_3 {F G : Nat → Int32} {mv : Nat → Int32} (h : ¬ X1_reachesL_r F G mv = 0) : F 3 = 1 := by
  by_cases c : F 3 = 1
  · exact c
  · refine absurd ?_ h
    unfold X1_reachesL_r X1_reachesL_j32
    rw [if_neg c, if_pos rfl]
theorem reachR_3 {F G : Nat → Int32} {mv : Nat → Int32} (h : ¬ X1_reachesR_r F G mv = 0) : G 3 = 1 := by
  by_cases c : G 3 = 1
  · exact c
  · refine absurd ?_ h
    unfold X1_reachesR_r X1_reachesR_j32
    rw [if_neg c, if_pos rfl]
theorem rem_k {F : Nat → Int32} {k : Nat} (h1 : k ≠ 13) (h2 : k ≠ 14) : X2_rememberAheadOfHits_w0 F k = F k := by
  unfold X2_rememberAheadOfHits_w0
  rw [upd_n _ _ h2, upd_n _ _ h1]
theorem rem_B {t n L : Nat} {F : Nat → Int32} (h : fgB t n F) (hl : lfB t L F) : fgB t n (X2_rememberAheadOfHits_w0 F) ∧ lfB t L (X2_rememberAheadOfHits_w0 F) ∧ X2_rememberAheadOfHits_w0 F 14 = X2_rememberAheadOfHits_w0 F 4 ∧ (X2_rememberAheadOfHits_w0 F 13 = 0 ∨ X2_rememberAheadOfHits_w0 F 13 = 3 → X2_rememberAheadOfHits_w0 F 5 = -1) := by
  refine ⟨h.congr rfl rfl rfl rfl rfl rfl, hl.congr (Nat.le_refl _) rfl (Or.inl rfl), rfl, fun q => ?_⟩
  have q : F 3 = 0 ∨ F 3 = 3 := q
  exact h.out.2 (fun z => by rw [z] at q; rcases q with q | q <;> exact absurd q (by decide))
/-- places that part: the left one no further right, the right one no further left -/
def apB (F G F1 G1 : Nat → Int32) : Prop := (0 ≤ (F1 0).toInt ∧ (F1 0).toInt ≤ (F 0).toInt) ∧ (G 0).toInt ≤ (G1 0).toInt ∧ (G1 0).toInt ≤ 600
theorem apB.pl {F G F1 G1 : Nat → Int32} (h : plB F G) (a : apB F G F1 G1) : plB F1 G1 := by
  obtain ⟨h0, h1, h2⟩ := h
  obtain ⟨⟨a0, a1⟩, a2, a3⟩ := a
  exact ⟨a0, by omega, a3⟩
theorem hit_k {G : Nat → Int32} {MV : Nat → Nat → Int32} {i k : Nat} (h : k = 0 ∨ k = 15) : X1_land_j30 G MV i k = G k := by
  unfold X1_land_j30
  split
  · rcases h with rfl | rfl <;> simp [X2_suffer_w0, X2_leaveMove_w0, upd]
  · rcases h with rfl | rfl <;> simp [X2_block_w0, upd]
theorem nI_ti {x : Int32} {v : Nat} (hv : v ≤ 60) (e : x = nI v) : 0 ≤ x.toInt ∧ x.toInt ≤ 60 := by
  rw [e, nI_toInt (by omega)]
  omega
theorem landL_P {F G : Nat → Int32} {MV : Nat → Nat → Int32} {i : Nat} (f15 : ¬ F 15 = 0) (g15 : G 15 = 0) (h : plB F G) (hv : ∃ v, v ≤ 60 ∧ X4_trait_r (MV i) 2 = nI v) : apB F G (X1_land_w0 F G MV i) (X1_land_w1 G MV i) := by
  obtain ⟨h0, h1, h2⟩ := h
  obtain ⟨v, hv, ev⟩ := hv
  obtain ⟨v0, v1⟩ := nI_ti hv ev
  have e0 : X1_land_j30 G MV i 0 = G 0 := hit_k (Or.inl rfl)
  obtain ⟨⟨a1, a2⟩, a3, a4⟩ := gbR_B (F := X1_land_j30 G MV i) (x := X4_trait_r (MV i) 2) ((hit_k (Or.inr rfl)).trans g15) (by rw [e0]; omega) (by rw [e0]; omega) v0 (by omega)
  rw [e0] at a1
  obtain ⟨⟨b1, b2⟩, -, -⟩ := gbL_B (F := X2_touch_w0 F (X4_trait_r (MV i) 4)) (x := X2_goBack_r (X1_land_j30 G MV i) (X4_trait_r (MV i) 2)) f15 h0 (show (F 0).toInt ≤ 600 by omega) a3 (by omega)
  exact ⟨⟨b1, b2⟩, a1, a2⟩
theorem landR_P {F G : Nat → Int32} {MV : Nat → Nat → Int32} {i : Nat} (f15 : ¬ F 15 = 0) (g15 : G 15 = 0) (h : plB F G) (hv : ∃ v, v ≤ 60 ∧ X4_trait_r (MV i) 2 = nI v) : apB F G (X1_land_w1 F MV i) (X1_land_w0 G F MV i) := by
  obtain ⟨h0, h1, h2⟩ := h
  obtain ⟨v, hv, ev⟩ := hv
  obtain ⟨v0, v1⟩ := nI_ti hv ev
  have e0 : X1_land_j30 F MV i 0 = F 0 := hit_k (Or.inl rfl)
  have e15 : X1_land_j30 F MV i 15 = F 15 := hit_k (Or.inr rfl)
  obtain ⟨⟨a1, a2⟩, a3, a4⟩ := gbL_B (F := X1_land_j30 F MV i) (x := X4_trait_r (MV i) 2) (by rw [e15]; exact f15) (by rw [e0]; omega) (by rw [e0]; omega) v0 (by omega)
  rw [e0] at a2
  obtain ⟨⟨b1, b2⟩, -, -⟩ := gbR_B (F := X2_touch_w0 G (X4_trait_r (MV i) 4)) (x := X2_goBack_r (X1_land_j30 F MV i) (X4_trait_r (MV i) 2)) g15 (show 0 ≤ (G 0).toInt by omega) h2 a3 (by omega)
  exact ⟨⟨a1, a2⟩, b1, b2⟩
theorem part_P {F G : Nat → Int32} (f15 : ¬ F 15 = 0) (g15 : G 15 = 0) (h : plB F G) : apB F G (X1_part_w1 F) (X1_part_w2 G) := by
  obtain ⟨h0, h1, h2⟩ := h
  obtain ⟨a, -, -⟩ := gbL_B (F := X2_touch_w0 F 0) (x := 20) f15 h0 (show (F 0).toInt ≤ 600 by omega) (by decide) (by decide)
  obtain ⟨b, -, -⟩ := gbR_B (F := X2_touch_w0 G 0) (x := 20) g15 (show 0 ≤ (G 0).toInt by omega) h2 (by decide) (by decide)
  exact ⟨a, b⟩
