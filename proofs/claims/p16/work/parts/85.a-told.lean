/-! the law's methods: what a walk has at every place -/
def bdF (p : Program) (s : State) (m : MethodId) (c : Code) (args : Array Value) (cc : ByteArray) (mL : Nat) (ws : List Cond) (dC : Nat → ClassId) (dI : Nat → Nat → Nat) (cY : Nat → ClassId) (A : Nat → Prop) : Prop := p.tables.exec = Jvm.exec ∧ c.code = cc ∧ c.maxLocals = mL ∧ s.vm.findClass RL = some m.cls ∧ (∀ w ∈ ws, w.before args s = true) ∧ va_K (dC, dI) vwCl (tyL cY) s ∧ vN s ∧ xN s ∧ xT s ∧ xZ A s s.heap ∧ ∀ q : Nat, s.heap.size ≤ q → A q
theorem zF {A : Nat → Prop} {ws : va_W} {H0 H : Heap} {locs : List Loc} (hD : va_D A ws) (hS : va_S A H0 H locs) (hA : ∀ q : Nat, H0.size ≤ q → A q) : ∀ q, va_A ws H.size q → A q := by
  intro q hq
  rcases hq with ⟨k, e, hk⟩ | hq
  · exact hD.2 k (q, e) hk
  · exact hA q (Nat.le_trans hS.1 hq)
theorem zX {A : Nat → Prop} {b L : Nat} {xs : Nat → Int32} {s : State} {H : Heap} {locs : List Loc} (hX : va_X b L xs s s.heap) (hbl : b < s.heap.size) (hbA : ¬ A b) (hS : va_S A s.heap H locs) : ∀ U : State, U.heap = H → s.WarmedH U.vm → va_X b L xs U U.heap ∧ b < U.heap.size := fun U hU hW => ⟨by rw [hU]; exact va_X.moved hW.alike (hX.kept (hS.2.1 b hbl hbA)), by rw [hU]; exact Nat.lt_of_lt_of_le hbl hS.1⟩
theorem blindT {av : List Value} {b L : Nat} {xs : Nat → Int32} : FrameBlind (va_Pc av (fun U => va_X b L xs U U.heap ∧ b < U.heap.size)) := fun a U g mk q => ⟨q.1, va_X.moved (u := U) (U := U.calling g mk a) (Vm.Alike.refl U.vm) q.2.1, q.2.2⟩
theorem blindU {av : List Value} : FrameBlind (va_Pc av (fun _ => True)) := fun _ _ _ _ q => q
set_option maxHeartbeats 8000000 in
set_option maxRecDepth 100000 in
theorem c_L_told (l : Launch) {b L k : Nat} {xs : Nat → Int32} (hL : L ≤ 260) (hk : k < 1000) : Met l yL_told wsL_told ({ frames := 0, cells := 0, slots := 0, locals := 0 } : Room) (va_Pc [.ref b, .int (nI k)] (fun U => va_X b L xs U U.heap ∧ b < U.heap.size)) (vp_Si (fun r => ∃ j : Nat, j < 2 ^ 31 ∧ r = nI j)) 0 0 (fun _ => False) := by
  refine Met.ofW (cc := cL_told) (maxL := 2) (ret := (some .int)) (by decide) rfl ?_
  intro p e s m args below meth c s₁ B hml hv
  obtain ⟨rfl, hX, hbl⟩ := hv
  have hx := B.exec
  have hb := B.bytes
  have hr := B.returns
  have hts := atoms_spec (ws := wsL_told) B.pre
  have hown : s.vm.findClass RL = some m.cls := findClass_of_methodNamed B.named
  have hlocks := B.notSynchronized
  have hbA : ¬ (fun _ : Nat => False) b := fun h => h
  have hS : va_S (fun _ : Nat => False) s.heap s.heap [] := va_S.rf
  have hl := lv_entry ([.ref b, .int (nI k)]) (n := 2) (Nat.le_of_ble_eq_true rfl)
  rw [lg_entry_eq]
  generalize (lg_sl ([.ref b, .int (nI k)]) ++ List.replicate (2 - (lg_sl ([.ref b, .int (nI k)])).length) Slot.unset).toArray = ls at hl ⊢
  have hl : lv_has ls 2 [(0, .ref b), (1, .int (nI k))] := hl
  refine lv_iload_n hx hb dL_told_0 rfl (lv_at hl 1 rfl) ?_
  refine lv_aload_n hx hb dL_told_1 rfl (lv_at hl 0 rfl) ?_
  refine va_slen hx hb hX hbl hbA hS dL_told_2 ?_
  refine lv_icmp_ge (tgt := 12) hx hb dL_told_3 (by decide) (fun _ => ?_) (fun c9 => ?_)
  · refine lv_ldc (v := 37013) hx hb hown (hts (.constant RL 7 37013) (List.mem_of_getElem? (i := 1) rfl)) dL_told_12 ?_
    refine lv_iload_n hx hb dL_told_14 rfl (lv_at hl 1 rfl) ?_
    refine lv_iconst (v := 5) hx hb dL_told_15 (by decide) ?_
    refine lv_iadd hx hb dL_told_16 ?_
    refine lv_imul hx hb dL_told_17 ?_
    refine lv_iload_n hx hb dL_told_18 rfl (lv_at hl 1 rfl) ?_
    refine lv_bipush (v := 9) hx hb dL_told_19 (by decide) ?_
    refine lv_iadd hx hb dL_told_21 ?_
    refine lv_imul hx hb dL_told_22 ?_
    refine lv_ldc (v := 2147483647) hx hb hown (hts (.constant RL 8 2147483647) (List.mem_of_getElem? (i := 2) rfl)) dL_told_23 ?_
    refine lv_iand hx hb dL_told_25 ?_
    obtain ⟨j, hj, ej⟩ := pk_andE (((37013 * ((nI k) + 5)) * ((nI k) + 9))) (m := 2147483647) 31 (by decide)
    exact W.iret (v := ((37013 * ((nI k) + 5)) * ((nI k) + 9)) &&& 2147483647) hx hb hr (fun t ht _ => ⟨_, rfl, ⟨j, hj, ej⟩, ht⟩) (fun _ h => absurd h List.not_mem_nil) dL_told_26
  · have hkL : k < L := by
      rcases Nat.lt_or_ge k L with q | q
      · exact q
      · exact absurd (show Int32.ofNat L ≤ nI k from nI_le q (by omega)) c9
    refine lv_aload_n hx hb dL_told_6 rfl (lv_at hl 0 rfl) ?_
    refine lv_iload_n hx hb dL_told_7 rfl (lv_at hl 1 rfl) ?_
    refine va_sld hx hb hX hbl hbA hS (vp_in_nI hkL (by omega)) dL_told_8 ?_
    refine lv_goto (tgt := 23) hx hb dL_told_9 (by decide) ?_
    refine lv_ldc (v := 2147483647) hx hb hown (hts (.constant RL 8 2147483647) (List.mem_of_getElem? (i := 2) rfl)) dL_told_23 ?_
    refine lv_iand hx hb dL_told_25 ?_
    obtain ⟨j, hj, ej⟩ := pk_andE ((xs (nI k).toNatClampNeg)) (m := 2147483647) 31 (by decide)
    exact W.iret (v := (xs (nI k).toNatClampNeg) &&& 2147483647) hx hb hr (fun t ht _ => ⟨_, rfl, ⟨j, hj, ej⟩, ht⟩) (fun _ h => absurd h List.not_mem_nil) dL_told_26
theorem inp_go {n j : Nat} (h : j < 5) : X7_needInput_x (nI n) (nI j) = 0 ∧ inB n (nI j) := by
  constructor
  · unfold X7_needInput_x X7_needInput_j14
    rw [if_neg (nI_pos (by omega)), if_neg (show ¬ (4 : Int32) < nI j from nI_nlt (b := j) (a := 4) (by omega) (by decide) |> fun _ z => by have := (nI_ltI (a := 4) (b := j) (by decide) (by omega)).mp z; omega), if_neg (by decide)]
  · exact Or.inl (nI_lt (b := 10) (by omega) (by decide))
theorem inp_mv {n j : Nat} (h : j < n) (hn : n ≤ 6) : X7_needInput_x (nI n) (nI (10 + j)) = 0 ∧ inB n (nI (10 + j)) := by
  have es : nI (10 + j) - 10 = nI j := by
    rw [show (10 : Int32) = nI 10 from rfl, pk_sub (by omega)]
    congr 1
    omega
  constructor
  · unfold X7_needInput_x X7_needInput_j14 X7_needInput_j40 X5_has_r
    rw [es, if_neg (nI_pos (by omega)), if_pos (show (4 : Int32) < nI (10 + j) from nI_lt (a := 4) (by omega) (by omega)), if_pos rfl, if_neg (show ¬ nI (10 + j) < 10 from fun z => by have := (nI_ltI (a := 10 + j) (b := 10) (by omega) (by decide)).mp z; omega), if_neg (nI_pos (by omega)), if_neg (show ¬ nI n ≤ nI j from nI_ge h (by omega)), if_neg (by decide)]
  · exact Or.inr ⟨j, h, es⟩
set_option maxHeartbeats 8000000 in
set_option maxRecDepth 100000 in
theorem c_L_input (l : Launch) {v n : Nat} (hv31 : v < 2 ^ 31) (hn1 : 1 ≤ n) (hn6 : n ≤ 6) : Met l yL_input wsL_input ({ frames := 0, cells := 0, slots := 0, locals := 0 } : Room) (va_Pc [.int (nI v), .int (nI n)] (fun _ => True)) (vp_Si (fun r => X7_needInput_x (nI n) r = 0 ∧ inB n r)) 0 0 (fun _ => False) := by
  refine Met.ofW (cc := cL_input) (maxL := 2) (ret := (some .int)) (by decide) rfl ?_
  intro p e s m args below meth c s₁ B hml hv
  obtain ⟨rfl, -⟩ := hv
  have hx := B.exec
  have hb := B.bytes
  have hr := B.returns
  have hlocks := B.notSynchronized
  have hl := lv_entry ([.int (nI v), .int (nI n)]) (n := 2) (Nat.le_of_ble_eq_true rfl)
  rw [lg_entry_eq]
  generalize (lg_sl ([.int (nI v), .int (nI n)]) ++ List.replicate (2 - (lg_sl ([.int (nI v), .int (nI n)])).length) Slot.unset).toArray = ls at hl ⊢
  have hl : lv_has ls 2 [(0, .int (nI v)), (1, .int (nI n))] := hl
  refine lv_iload_n hx hb dL_input_0 rfl (lv_at hl 0 rfl) ?_
  refine lv_iconst (v := 3) hx hb dL_input_1 (by decide) ?_
  refine lv_irem hx hb dL_input_2 (by decide) ?_
  refine lv_topi (fun x1 ex1 => ?_)
  obtain rfl : x1 = (nI (v % 3)) := ex1.trans (pk_rem (a := v) (d := 3) (by omega) (by omega) (by omega))
  refine lv_if_ne (tgt := 14) hx hb dL_input_3 (by decide) (fun _ => ?_) (fun _ => ?_)
  · refine lv_bipush (v := 10) hx hb dL_input_14 (by decide) ?_
    refine lv_iload_n hx hb dL_input_16 rfl (lv_at hl 0 rfl) ?_
    refine lv_iconst (v := 4) hx hb dL_input_17 (by decide) ?_
    refine lv_idiv hx hb dL_input_18 (by decide) ?_
    refine lv_topi (fun x2 ex2 => ?_)
    obtain rfl : x2 = (nI (v / 4)) := ex2.trans (pk_div (a := v) (d := 4) (by omega) (by omega) (by omega))
    refine lv_iload_n hx hb dL_input_19 rfl (lv_at hl 1 rfl) ?_
    refine lv_irem hx hb dL_input_20 (nI_ne0 (by omega) (by omega)) ?_
    refine lv_topi (fun x3 ex3 => ?_)
    obtain rfl : x3 = (nI (v / 4 % n)) := ex3.trans (pk_rem (a := v / 4) (d := n) (by omega) (by omega) (by omega))
    refine lv_iadd hx hb dL_input_21 ?_
    refine lv_topi (fun x4 ex4 => ?_)
    obtain rfl : x4 = (nI (10 + v / 4 % n)) := ex4.trans (nI_add 10 (v / 4 % n))
    exact W.iret (v := nI (10 + v / 4 % n)) hx hb hr (fun t ht _ => ⟨_, rfl, inp_mv (Nat.mod_lt _ (by omega)) hn6, ht⟩) (fun _ h => absurd h List.not_mem_nil) dL_input_22
  · refine lv_iload_n hx hb dL_input_6 rfl (lv_at hl 0 rfl) ?_
    refine lv_iconst (v := 4) hx hb dL_input_7 (by decide) ?_
    refine lv_idiv hx hb dL_input_8 (by decide) ?_
    refine lv_topi (fun x5 ex5 => ?_)
    obtain rfl : x5 = (nI (v / 4)) := ex5.trans (pk_div (a := v) (d := 4) (by omega) (by omega) (by omega))
    refine lv_iconst (v := 5) hx hb dL_input_9 (by decide) ?_
    refine lv_irem hx hb dL_input_10 (by decide) ?_
    refine lv_topi (fun x6 ex6 => ?_)
    obtain rfl : x6 = (nI (v / 4 % 5)) := ex6.trans (pk_rem (a := v / 4) (d := 5) (by omega) (by omega) (by omega))
    refine lv_goto (tgt := 22) hx hb dL_input_11 (by decide) ?_
    exact W.iret (v := nI (v / 4 % 5)) hx hb hr (fun t ht _ => ⟨_, rfl, inp_go (show v / 4 % 5 < 5 from Nat.mod_lt _ (by omega)), ht⟩) (fun _ h => absurd h List.not_mem_nil) dL_input_22
