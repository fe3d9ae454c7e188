/-! pure: hits in a row -/
theorem hw_B {n m : Nat} {MV : Nat → Nat → Int32} (hM : mvB n MV) (hm : m < n) (k : Nat) : ∀ (j LF LG : Nat) (F G : Nat → Int32) (hb : Int32), j + k ≤ 60 → duB j n LF LG F G → (X3_hw_run MV (nI m) 0 k j (F, G, hb)).2.1 15 = 1 ∧ (X3_hw_run MV (nI m) 0 k j (F, G, hb)).2.2 15 = 0 ∧ (¬ (X3_hw_run MV (nI m) 0 k j (F, G, hb)).1 = 0 → ∃ L, 1 ≤ L ∧ L ≤ 20000 ∧ (X3_hw_run MV (nI m) 0 k j (F, G, hb)).2.2 1 = 1000 - nI L) := by
  induction k with
  | zero =>
    intro j LF LG F G hb hj hd
    rw [X3_hw_run]
    exact ⟨hd.2.2.2.2.2.1, hd.2.2.2.2.2.2.1, fun q => absurd rfl q⟩
  | succ k ih =>
    intro j LF LG F G hb hj hd
    have i1 : inB n (X3_hitsWith_j33 hb (nI m)) := by
      unfold X3_hitsWith_j33
      split
      · exact in_mv hm hM.1
      · exact Or.inl (by decide)
    obtain ⟨L1, L2, -, -, hd2⟩ := frame_B (one := X3_hitsWith_j33 hb (nI m)) (two := 0) hM (by omega) i1 (Or.inl (by decide)) hd
    rw [X3_hw_run_s]
    by_cases c : (X1_playFrame_w2 F G MV (X3_hitsWith_j33 hb (nI m)) 0) 4 = 0
    · rw [if_pos c]
      exact ih (j + 1) L1 L2 _ _ _ (by omega) hd2
    · rw [if_neg c]
      dsimp only
      generalize X1_playFrame_w1 F G MV (X3_hitsWith_j33 hb (nI m)) 0 = F1 at hd2 ⊢
      generalize X1_playFrame_w2 F G MV (X3_hitsWith_j33 hb (nI m)) 0 = G1 at hd2 c ⊢
      refine ⟨hd2.2.2.2.2.2.1, hd2.2.2.2.2.2.2.1, fun _ => ?_⟩
      obtain ⟨⟨cc, hc, ec, hcL⟩, hL, e1⟩ := hd2.2.2.2.2.1
      refine ⟨L2, hcL ?_, by omega, e1⟩
      rcases Nat.eq_zero_or_pos cc with z | z
      · rw [ec, z] at c
        exact absurd rfl c
      · exact z
theorem hw_C {MV : Nat → Nat → Int32} {mv : Int32} (k : Nat) : ∀ (j : Nat) (F G F' G' : Nat → Int32) (hb : Int32), zq zqA F F' → zq zqA G G' → (X3_hw_run MV mv 0 k j (F, G, hb)).1 = (X3_hw_run MV mv 0 k j (F', G', hb)).1 ∧ (X3_hw_run MV mv 0 k j (F, G, hb)).2.2 1 = (X3_hw_run MV mv 0 k j (F', G', hb)).2.2 1 := by
  induction k with
  | zero =>
    intro j F G F' G' hb a b
    rw [X3_hw_run, X3_hw_run]
    exact ⟨rfl, b 1 (by decide)⟩
  | succ k ih =>
    intro j F G F' G' hb a b
    obtain ⟨c, d⟩ := zq_frame MV (X3_hitsWith_j33 hb mv) 0 a b
    have d4 := d 4 (by decide)
    have c12 := c 12 (by decide)
    have ej : X3_hitsWith_j56 MV F G hb mv = X3_hitsWith_j56 MV F' G' hb mv := by
      unfold X3_hitsWith_j56
      rw [c12]
    rw [X3_hw_run_s, X3_hw_run_s, d4, ej]
    by_cases q : (X1_playFrame_w2 F' G' MV (X3_hitsWith_j33 hb mv) 0) 4 = 0
    · rw [if_pos q, if_pos q]
      exact ih (j + 1) _ _ _ _ _ c.ba d.ba
    · rw [if_neg q, if_neg q]
      have d1 := d 1 (by decide)
      dsimp only
      exact ⟨rfl, d1⟩
/-- the first hit by a move, told of figures that are fresh -/
def hwZ (MV : Nat → Nat → Int32) (mv : Int32) : Int32 × (Nat → Int32) × (Nat → Int32) := X3_hw_run MV mv 0 60 0 (X1_prepare_w1 cnP 20 50, X1_prepare_w2 cnQ 20 100, 0)
def lossZ (MV : Nat → Nat → Int32) (mv : Int32) : Int32 := 1000 - (hwZ MV mv).2.2 1
theorem hw_first {n m : Nat} {MV : Nat → Nat → Int32} {A B C D : Nat → Int32} (hM : mvB n MV) (hm : m < n) (ha : A 15 = 1) (hb : B 15 = 0) (hc : C 15 = 1) (hd : D 15 = 0) :
    ∃ X : Int32 × (Nat → Int32) × (Nat → Int32), X3_hw_run MV (nI m) ((X1_copy_w2 D (X1_prepare_w2 B 20 100)) 4) 60 0 ((X1_copy_w1 C (X1_prepare_w1 A 20 50)), (X1_copy_w2 D (X1_prepare_w2 B 20 100)), 0) = X ∧ X.1 = (hwZ MV (nI m)).1 ∧ (1000 - X.2.2 1 = lossZ MV (nI m)) ∧ X.2.1 15 = 1 ∧ X.2.2 15 = 0 ∧ (¬ X.1 = 0 → ∃ L, 1 ≤ L ∧ L ≤ 20000 ∧ 1000 - X.2.2 1 = nI L) := by
  have e4 : (X1_copy_w2 D (X1_prepare_w2 B 20 100)) 4 = 0 := rfl
  have za : zq zqA (X1_copy_w1 C (X1_prepare_w1 A 20 50)) (X1_prepare_w1 cnP 20 50) := zq.tr (zq_copy C (X1_prepare_w1 A 20 50) (hc.trans ha.symm)) (zq_prepare A cnP _ _ ha)
  have zb : zq zqA (X1_copy_w2 D (X1_prepare_w2 B 20 100)) (X1_prepare_w2 cnQ 20 100) := zq.tr (zq_copy D (X1_prepare_w2 B 20 100) (hd.trans hb.symm)) (zq_prepare B cnQ _ _ hb)
  have h0 : duB 0 n 0 0 (X1_prepare_w1 cnP 20 50) (X1_prepare_w2 cnQ 20 100) := prep_B (n := n) (P := cnP) (Q := cnQ) (ap := 20) (lm := 50) (rm := 100) (a := 20) (x := 50) (y := 100) rfl (by decide) (by decide) (by decide) rfl (by decide) rfl (by decide) rfl rfl
  have h1 := duB_zq za zb h0
  obtain ⟨b1, b2, b3⟩ := hw_B hM hm 60 0 0 0 _ _ 0 (by decide) h1
  obtain ⟨c1, c2⟩ := hw_C (MV := MV) (mv := nI m) 60 0 _ _ _ _ 0 za zb
  rw [e4]
  generalize X3_hw_run MV (nI m) 0 60 0 ((X1_copy_w1 C (X1_prepare_w1 A 20 50)), (X1_copy_w2 D (X1_prepare_w2 B 20 100)), 0) = X at b1 b2 b3 c1 c2 ⊢
  refine ⟨X, rfl, c1, ?_, b1, b2, fun q => ?_⟩
  · unfold lossZ hwZ
    rw [c2]
  · obtain ⟨L, hL1, hL2, eL⟩ := b3 q
    refine ⟨L, hL1, hL2, ?_⟩
    rw [eL]
    have es : ((1000 : Int32) - nI L).toInt = (1000 : Nat) - (L : Int) := pk_sub_toInt (a := 1000) (by decide) (by omega)
    have e1000 : (1000 : Int32).toInt = 1000 := rfl
    refine Int32.toInt_inj.mp ?_
    rw [zi_sub (by rw [es]; omega) (by rw [es]; omega), es, nI_toInt (by omega)]
    omega
/-- within the search: the best is no worse than the first hit alone, and begins with it -/
def akZ (L mv hits : Int32) (S : aS) : Prop := L ≤ S.1 ∧ (hits = 1 → S.1 = L) ∧ ¬ S.2.1 ≤ 0 ∧ S.2.2.1 0 = mv ∧ S.2.2.2.1 0 = mv
theorem ahL_K {P : aS → Prop} {f : Int32 → aS → aS} {cnt : Int32} (hf : ∀ i S, P S → P (f i S)) (k : Nat) : ∀ (j : Nat) (S : aS), P S → P (ahL f cnt k j S) := by
  induction k with
  | zero => intro j S h; rw [ahL]; exact h
  | succ k ih =>
    intro j S h
    rw [ahL]
    by_cases c : cnt ≤ nI j
    · rw [if_pos c]; exact h
    · rw [if_neg c]; exact ih (j + 1) _ (hf _ _ h)
theorem ahK_K {L mv hits i : Int32} {d : Nat} {S : aS} {r : Int32 × (Nat → Int32) × (Nat → Int32)} (hd : 1 ≤ d) (hd3 : d ≤ 3) (h1 : ¬ hits = 1) (h : akZ L mv hits S) : akZ L mv hits (ahK d i S r) := by
  obtain ⟨a, -, c, e, f⟩ := h
  have h4 : ¬ (4 : Int32) < nI (d + 1) := nI_nlt (b := d + 1) (a := 4) (by omega) (by decide) |> fun q => by
    intro z
    have := (nI_ltI (a := 4) (b := d + 1) (by decide) (by omega)).mp z
    omega
  unfold akZ ahK X3_keepIfBest_0_0 X3_keepIfBest_0_6 X3_keepIfBest_w2
  dsimp only
  rw [if_neg h4, if_neg h4, if_neg h4]
  generalize 1000 - r.2.2 1 = loss
  have e0 : upd S.2.2.1 d i 0 = mv := (upd_n _ _ (by omega)).trans e
  by_cases q : loss ≤ S.1
  · rw [if_pos q, if_pos q, if_pos q]
    exact ⟨a, fun z => absurd z h1, c, e0, f⟩
  · rw [if_neg q, if_neg q, if_neg q]
    refine ⟨Int32.le_trans a (Int32.le_of_lt (Int32.not_le.mp q)), fun z => absurd z h1, nI_nle (by omega) (by omega), e0, ?_⟩
    rw [pk_cpy_in (Nat.le_refl _) (by rw [nI_clamp (by omega)]; omega)]
    exact e0
theorem ahG_K {MV : Nat → Nat → Int32} {cnt L mv hits : Int32} (n : Nat) : ∀ (d : Nat) (i : Int32) (S : aS), 1 ≤ d → d + n ≤ 4 → akZ L mv hits S → akZ L mv hits (ahG MV cnt hits n d i S) := by
  induction n with
  | zero => intro d i S _ _ h; rw [ahG]; exact h
  | succ n ih =>
    intro d i S hd hn h
    rw [ahG]
    by_cases c : hits ≤ nI d
    · rw [if_pos c]; exact h
    · rw [if_neg c]
      have h1 : ¬ hits = 1 := fun z => c (by rw [z]; exact nI_le (a := 1) hd (by omega))
      generalize hitR MV i S.2.2.2.2 d = r
      by_cases c2 : r.1 = 0
      · rw [if_pos c2]; exact h
      · rw [if_neg c2]
        exact ahL_K (P := akZ L mv hits) (fun j S' h' => ih (d + 1) j S' (by omega) (by omega) h') 6 0 _ (ahK_K hd (by omega) h1 h)
/-- the search as a whole -/
theorem ahG_top {MV : Nat → Nat → Int32} {cnt hits mv : Int32} {rr bs : Nat → Int32} {HF : Nat → Nat → Int32} {X : Int32 × (Nat → Int32) × (Nat → Int32)} (hh : 1 ≤ hits) (hX : hitR MV mv HF 0 = X) (hL : ¬ X.1 = 0 → ∃ L, 1 ≤ L ∧ L ≤ 20000 ∧ 1000 - X.2.2 1 = nI L) :
    (X.1 = 0 → (ahG MV cnt hits 4 0 mv (0, 0, rr, bs, HF)).1 = 0 ∧ (ahG MV cnt hits 4 0 mv (0, 0, rr, bs, HF)).2.1 = 0) ∧ (¬ X.1 = 0 → akZ (1000 - X.2.2 1) mv hits (ahG MV cnt hits 4 0 mv (0, 0, rr, bs, HF))) := by
  have h0 : ¬ hits ≤ nI 0 := fun q => absurd (Int32.le_trans hh q) (by decide)
  rw [ahG, if_neg h0, hX]
  constructor
  · intro c
    rw [if_pos c]
    exact ⟨rfl, rfl⟩
  · intro c
    rw [if_neg c]
    obtain ⟨L, hL1, hL2, eL⟩ := hL c
    refine ahL_K (P := akZ (1000 - X.2.2 1) mv hits) (fun j S' h' => ahG_K 3 1 j S' (Nat.le_refl _) (by decide) h') 6 0 _ ?_
    unfold akZ ahK X3_keepIfBest_0_0 X3_keepIfBest_0_6 X3_keepIfBest_w2
    dsimp only
    rw [eL, if_neg (nI_nle (by omega) (by omega)), if_neg (nI_nle (by omega) (by omega)), if_neg (nI_nle (by omega) (by omega)), if_neg (by decide), if_neg (by decide), if_neg (by decide)]
    refine ⟨Int32.le_refl _, fun _ => rfl, by decide, upd_s _ _ _, ?_⟩
    rw [pk_cpy_in (Nat.le_refl _) (by decide)]
    exact upd_s _ _ _
