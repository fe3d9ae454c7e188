/-! THE CLAIM OUT OF ONE WALK OF THE LAW'S BODY. Your part is whole_start (and what it stands on); all else here is the same for every law, but numbers. -/
def R_law : String := "DuelFramesLaw"
def lw_P (b : Addr) (xs : List Int32) (args : Array Value) (s : State) : Prop := args = #[.ref b] ∧ s.IntsAt b xs ∧ xs.length ≤ 260 ∧ (Jvm.Cond.and given_1 narrow_1).before args s = true
def lw_Q (_ : Array Value) (s : State) (o : Outcome) (t : State) : Prop := o = .returned (some (.int 1)) ∧ Framed s o t [] 600074 7301550
def lw_Z (below : List Frame) (a : Array Value) (s : State) : State → Prop := fun t => ∃ o, t.status = .running ∧ Ended t below o ∧ lw_Q a s o t
/-- the law's own end, with 1 on the stack, nothing written that was there before, its room as the claim has it -/
theorem lw_ret {p : Program} {l : Launch} {e : Env} {s : State} {m : MethodId} {below : List Frame} {meth : Method} {c : Code} {b : Nat} (hx : p.tables.exec = Jvm.exec) (hb : c.code = code) (hr : meth.sig.returnType = ret) (hlocks : meth.locks = false) {pc : Nat} {H : Heap} {ls : Array Slot} (hdg : decode code pc = .ok (.ireturn, 1)) : W p l e room_1 s m #[Value.ref b] below meth c H [] 600074 7301550 (lw_Z below #[Value.ref b] s) (F0 m pc ls [.int 1]) := by
  intro T hT X
  obtain ⟨fs, hret, hrun, hended, hW, hframe⟩ := X.leave (v := some (.int 1)) (hlocks := hlocks) (fun h => by rw [hr] at h; cases h)
  have hmeth' : T.vm.method? m = some meth := X.method'
  refine ⟨T.setFrames fs, ?_, .returned (some (.int 1)), hrun, hended, rfl, ⟨_, rfl⟩, hW, hframe⟩
  jvm_step X.here [X.here.top, hx, hb, hdg, hmeth', hr, ret, narrow_b1]
  (try refine ⟨rfl, ?_⟩); (try refine ⟨rfl, ?_⟩)
  first | (intro acts; rw [hret _ acts rfl rfl rfl]) | rw [hret _ _ rfl rfl rfl]
  exact Steps.refl _
/-- what holds at the law's entry: the machine, the code, the tables' words (any of lw_tbl by 'hts w (by decide +kernel)'), the script of L ints xs at the cell b, what the Statement gives of the start (any of its parts by flat_of_before) -/
def lw_At (p : Program) (s : State) (m : MethodId) (meth : Method) (c : Code) (b L : Nat) (xs : Nat → Int32) : Prop :=
  p.tables.exec = Jvm.exec ∧ c.code = code ∧ meth.sig.returnType = ret ∧ c.maxLocals = 12 ∧ s.vm.findClass R_law = some m.cls ∧ (∀ w ∈ lw_tbl, w.before #[Value.ref b] s = true) ∧ va_X b L xs s s.heap ∧ b < s.heap.size ∧ meth.locks = false ∧ (Jvm.Cond.and given_1 narrow_1).before #[Value.ref b] s = true
-- ===== YOUR PART BEGINS =====
theorem vk_of {own tx : String} {k : Nat} {U : State} {A : Array Value} (h : (Cond.stringRef own k tx).before A U = true) : ∃ a, vk_R own k tx a U := by
  have h0 : (Cond.stringRef own k tx).before #[] U = true := h
  have h1 := h
  unfold Cond.before Cond.holds Cond.value at h1
  cases hc : U.vm.findClass own with
  | none => simp [hc] at h1
  | some c0 =>
    cases hr : U.resolvedAt? own k with
    | none => simp [hc, hr] at h1
    | some r =>
      cases r with
      | string a =>
        refine ⟨a, h0, ?_⟩
        unfold State.resolvedAt? at hr
        simp [hc] at hr
        unfold Term.eval
        cases hk : U.vm.classes[c0]? with
        | none => rw [hk] at hr; cases hr
        | some k0 =>
          rw [hk] at hr
          have hr2 : k0.resolved[k]?.join = some (Resolved.string a) := hr
          simp [hc, hk, hr2]
      | _ => simp [hc, hr] at h1
theorem arr_p {args : Array Value} {s : State} (h : (Cond.arrayClass .int).before args s = true) : ∃ cA : ClassId, ArrOfT s cA .int ∧ va_RA s cA .int := by
  obtain ⟨c, k, comp, h1, h2, h3⟩ := Cond.arrayClass_spec h
  exact ⟨c, fun n z => ⟨fun k h => (by cases h), k, h2, comp, h3⟩, h1⟩
theorem arr_z {args : Array Value} {s : State} (h : (Cond.arrayClass .boolean).before args s = true) : ∃ cA : ClassId, ArrOfT s cA .boolean ∧ va_RA s cA .boolean := by
  obtain ⟨c, k, comp, h1, h2, h3⟩ := Cond.arrayClass_spec h
  exact ⟨c, fun n z => ⟨fun k h => (by cases h), k, h2, comp, h3⟩, h1⟩
theorem arr_o {args : Array Value} {s : State} {C : String} (h : (Cond.arrayOver (.object C)).before args s = true) : ∃ cA : ClassId, ArrOfT s cA (.object C) ∧ va_RA s cA (.object C) := by
  obtain ⟨comp, c, k, h1, -, h2, h3, h4⟩ := Cond.arrayOver_spec h
  exact ⟨c, fun n z => ⟨fun k h => (by cases h), k, h2, comp, h3⟩, k, comp, h2, h3, h1, h4⟩
/-- YOUR PART: from the entry, for every script of at most 260 ints, the law comes to its end with true ('hflags': the launch's flags, for a law that throws: no stack traces) -/
theorem whole_start {p : Program} {e : Env} {s : State} {m : MethodId} {below : List Frame} {meth : Method} {c : Code} (l : Launch) (hflags : l.flags = flags0) {b L : Nat} {xs : Nat → Int32} (hL : L ≤ 260) (C0 : lw_At p s m meth c b L xs) : W p l e room_1 s m #[Value.ref b] below meth c s.heap [] 0 0 (lw_Z below #[Value.ref b] s) (entryFrame m ([Value.ref b] : List Value).toArray 12) := by
  obtain ⟨hx, hb0, hr, hml, hown, htab, hX, hbl, hlocks, hgv⟩ := id C0
  have hb : c.code = cL_law := hb0
  have hst : l.stackTraces = false := by unfold Launch.stackTraces; rw [hflags]; decide +kernel
  have hts : ∀ w ∈ wsL_law, w.before #[Value.ref b] s = true := fun w hw => htab w (wsL_law_in w hw)
  have T : ∀ (i : Nat) (w : Cond), tables_1[i]? = some w → w.before #[Value.ref b] s = true := fun i w h => htab w (List.mem_append_right _ (List.mem_of_getElem? h))
  have hs := flat_of_before _ hgv
  have hA : ∀ q : Nat, s.heap.size ≤ q → (fun q : Nat => s.heap.size ≤ q) q := fun _ h => h
  have hno : ∀ a : Nat, a < s.heap.size → ¬ (fun q : Nat => s.heap.size ≤ q) a := fun a h => Nat.not_le.mpr h
  have hbA : ¬ (fun q : Nat => s.heap.size ≤ q) b := hno b hbl
  have hN : vN s := ⟨va_Nw.of rfl (T 617 (.methodLinkNest RX3 46 yX7_inputOf RX7) (by decide +kernel)), va_Nw.of rfl (T 630 (.methodLinkNest RX7 196 yX3_addHit RX7) (by decide +kernel)), va_Nw.of rfl (T 34 (.methodLinkNest RX5 21 yX4_init RX7) (by decide +kernel)), va_Nw.of rfl (T 170 (.methodLinkNest RX7 33 yX6_init RX7) (by decide +kernel)), va_Nw.of rfl (T 196 (.methodLinkNest RX7 40 yX0_init RX7) (by decide +kernel))⟩
  have hO : vO s := ⟨va_AO.of (T 32 (.arrayOver (.object RX4)) (by decide +kernel)), va_AO.of (T 218 (.arrayOver (.object RX1)) (by decide +kernel))⟩
  have xn : xN s := ⟨va_Nw.of rfl (T 279 (.declares (Bundle.initS "java/lang/RuntimeException")) (by decide +kernel)), va_Nw.of rfl (T 281 (.declares (Bundle.initS "java/lang/Exception")) (by decide +kernel)), va_Nw.of rfl (T 283 (.declares (Bundle.initS Bundle.tN)) (by decide +kernel)), va_Nw.of rfl (T 553 (.castable "java/lang/IndexOutOfBoundsException" "java/lang/IndexOutOfBoundsException") (by decide +kernel)), va_Nw.of rfl (T 277 (.castable "java/lang/IllegalArgumentException" "java/lang/IllegalArgumentException") (by decide +kernel)), va_Nw.of rfl (T 350 (.castable "java/lang/IllegalStateException" "java/lang/IllegalStateException") (by decide +kernel))⟩
  have xm : ∀ q ∈ xW, Cond.stringRef RX7 q.1 q.2 ∈ tables_1 := by decide +kernel
  have xt : xT s := fun q hq => vk_of (htab _ (List.mem_append_right _ (xm q hq)))
  have xz : xZ (fun q => s.heap.size ≤ q) s s.heap := ⟨vx_Zqof (T 302 (.laysStatic Bundle.tN "UNASSIGNED_STACK" Bundle.steD) (by decide +kernel)) (T 9 (.initialized Bundle.tN) (by decide +kernel)) (hs (.isRef (.static Bundle.tN "UNASSIGNED_STACK" Bundle.steD)) (by decide +kernel)) hno, vx_Zqof (T 304 (.laysStatic Bundle.tN "SUPPRESSED_SENTINEL" Bundle.listD) (by decide +kernel)) (T 9 (.initialized Bundle.tN) (by decide +kernel)) (hs (.isRef (.static Bundle.tN "SUPPRESSED_SENTINEL" Bundle.listD)) (by decide +kernel)) hno⟩
  obtain ⟨c0, i0, hKn0⟩ := u_known (C := RX0) (T := TX0) (N := 3) (n := 3) hts inlX0 (T 195 (.instantiable RX0 3) (by decide +kernel))
  obtain ⟨c1, i1, hKn1⟩ := u_known (C := RX1) (T := TX1) (N := 3) (n := 3) hts inlX1 (T 83 (.instantiable RX1 3) (by decide +kernel))
  obtain ⟨c2, i2, hKn2⟩ := u_known (C := RX2) (T := TX2) (N := 16) (n := 16) hts inlX2 (T 89 (.instantiable RX2 16) (by decide +kernel))
  obtain ⟨c3, i3, hKn3⟩ := u_known (C := RX3) (T := TX3) (N := 7) (n := 7) hts inlX3 (T 212 (.instantiable RX3 7) (by decide +kernel))
  obtain ⟨c4, i4, hKn4⟩ := u_known (C := RX4) (T := TX4) (N := 8) (n := 8) hts inlX4 (T 33 (.instantiable RX4 8) (by decide +kernel))
  obtain ⟨c5, i5, hKn5⟩ := u_known (C := RX5) (T := TX5) (N := 3) (n := 3) hts inlX5 (T 26 (.instantiable RX5 3) (by decide +kernel))
  obtain ⟨c6, i6, hKn6⟩ := u_known (C := RX6) (T := TX6) (N := 6) (n := 6) hts inlX6 (T 169 (.instantiable RX6 6) (by decide +kernel))
  obtain ⟨c7, i7, hKn7⟩ := u_known (C := RX7) (T := TX7) (N := 8) (n := 8) hts inlX7 (T 18 (.instantiable RX7 8) (by decide +kernel))
  obtain ⟨dC, dI, hKc⟩ : ∃ (dC : Nat → ClassId) (dI : Nat → Nat → Nat), ∀ (k : Nat) (q : vw_C), vwCl[k]? = some q → u_Kn s q.1 q.2.1 q.2.2 (dC k) (dI k) := by
    refine ⟨fun k => [c0, c1, c2, c3, c4, c5, c6, c7].getD k c0, fun k => [i0, i1, i2, i3, i4, i5, i6, i7].getD k i0, ?_⟩
    intro k q hq
    match k, hq with
    | 0, hq => cases hq; exact hKn0
    | 1, hq => cases hq; exact hKn1
    | 2, hq => cases hq; exact hKn2
    | 3, hq => cases hq; exact hKn3
    | 4, hq => cases hq; exact hKn4
    | 5, hq => cases hq; exact hKn5
    | 6, hq => cases hq; exact hKn6
    | 7, hq => cases hq; exact hKn7
    | k + 8, hq => simp [vwCl] at hq
  obtain ⟨y0, hy0⟩ := arr_p (T 68 (.arrayClass .int) (by decide +kernel))
  obtain ⟨y1, hy1⟩ := arr_z (T 69 (.arrayClass .boolean) (by decide +kernel))
  obtain ⟨y2, hy2⟩ := arr_o (T 32 (.arrayOver (.object RX4)) (by decide +kernel))
  obtain ⟨y3, hy3⟩ := arr_o (T 218 (.arrayOver (.object RX1)) (by decide +kernel))
  obtain ⟨cY, hK⟩ : ∃ cY : Nat → ClassId, va_K (dC, dI) vwCl (tyL cY) s := by
    refine ⟨fun k => [y0, y1, y2, y3].getD k y0, hKc, fun k q hq => ?_⟩
    match k, hq with
    | 0, hq => cases hq; exact hy0
    | 1, hq => cases hq; exact hy1
    | 2, hq => cases hq; exact hy2
    | 3, hq => cases hq; exact hy3
    | k + 4, hq => simp [tyL] at hq
  have hS : va_S (fun q : Nat => s.heap.size ≤ q) s.heap s.heap [] := va_S.rf
  have hP : va_P (dC, dI) vwCl [] s.heap := fun k q h => by simp at h
  have hD : va_D (fun q : Nat => s.heap.size ≤ q) [] := ⟨fun i j p q h => by simp at h, fun k q h => by simp at h⟩
  have hl := lv_entry ([.ref b]) (n := 12) (Nat.le_of_ble_eq_true rfl)
  rw [lg_entry_eq]
  generalize (lg_sl ([.ref b]) ++ List.replicate (12 - (lg_sl ([.ref b])).length) Slot.unset).toArray = ls at hl ⊢
  have hl : lv_has ls 12 [(0, .ref b)] := hl
  refine va_new (D := (dC, dI)) (ci := 7) (fs := [.null, .null, .null, .null, .null, .null, .null, .int 0]) (C := RX7) (T := TX7) (N := 8) hx hb hts inlX7 tyX7 tyX7_ok hown (T 17 (.classLink RL 18 RX7) (by decide +kernel)) (T 18 (.instantiable RX7 8) (by decide +kernel)) (T 1 (.initialized RX7) (by decide +kernel)) hK hP hD hS hA rfl (fun j hj => by rcases (show j = 0 ∨ j = 1 ∨ j = 2 ∨ j = 3 ∨ j = 4 ∨ j = 5 ∨ j = 6 ∨ j = 7 by omega) with rfl | rfl | rfl | rfl | rfl | rfl | rfl | rfl <;> rfl) (Nat.le_of_ble_eq_true rfl) (Nat.le_of_ble_eq_true rfl) dL_law_0 (fun x0 H hP1 hD1 hS1 => ?_)
  clear hP hD hS
  have hP : va_P (dC, dI) vwCl [(x0, .inr (7, [.null, .null, .null, .null, .null, .null, .null, .int 0]))] H := hP1
  have hD : va_D (fun q : Nat => s.heap.size ≤ q) [(x0, .inr (7, [.null, .null, .null, .null, .null, .null, .null, .int 0]))] := hD1
  have hS := hS1
  clear hP1 hD1 hS1
  refine W.widen (k := 1) (n := 8) (Nat.le_of_ble_eq_true rfl) (Nat.le_of_ble_eq_true rfl) ?_
  refine lv_dup hx hb dL_law_3 rfl ?_
  have hPc := hP.sub (ws' := [(x0, .inr (7, [.null, .null, .null, .null, .null, .null, .null, .int 0]))]) [0] rfl
  have hDc := hD.sub (ws' := [(x0, .inr (7, [.null, .null, .null, .null, .null, .null, .null, .int 0]))]) [0] (by decide) rfl
  have hFc := va_free (wc := [(x0, .inr (7, [.null, .null, .null, .null, .null, .null, .null, .int 0]))]) hD hS hA [0] rfl
  refine va_callv (va_runI (As := []) (rest := [.ref x0]) ⟨hx, hb, hml, hown, hts⟩ (c_X7_init l dC dI cY x0 H.size) (cwI 0 hts gL_law_X7_init rfl rfl rfl (T 1 (.initialized RX7) (by decide +kernel)) (T 19 (.methodLink RL 39 yX7_init) (by decide +kernel)) (T 20 (.instanceMethod yX7_init) (by decide +kernel)) rfl (by decide +kernel) ⟨(Nat.le_of_ble_eq_true rfl), (Nat.le_of_ble_eq_true rfl)⟩) ⟨blindI, fun U hU hW => ⟨rfl, iPre_of hPc hK hN hO hDc U hU hW⟩⟩ rfl rfl hl.1 rfl (lv_room (Nat.le_of_ble_eq_true rfl)) dL_law_4 ⟨(Nat.le_of_ble_eq_true rfl), (Nat.le_of_ble_eq_true rfl)⟩) hS (fun q _ h => hFc q h) hFc (fun u1 t H1 locs ht hvm hw hB hz1 hk1 hS1 => ?_)
  have hJ := wJoin (wr := []) (w1 := [(x0, .inr (7, [.ref (u1.1 0), .ref (u1.2.1 0), .ref (u1.2.2.2 0), .ref (u1.2.2.2 3), .ref (u1.2.2.2 6), .ref (u1.2.2.2 9), .ref (u1.2.2.2 10), .int 0])), (u1.2.2.2 0, .inr (1, [.ref (u1.2.1 0), .ref (u1.2.2.2 1), .ref (u1.2.2.2 2)])), (u1.2.2.2 1, .inr (2, figL (X2_init_w0 (fun _ => 0) 1))), (u1.2.2.2 2, .inr (2, figL (X2_init_w0 (fun _ => 0) 0))), (u1.2.2.2 3, .inr (1, [.ref (u1.2.1 0), .ref (u1.2.2.2 4), .ref (u1.2.2.2 5)])), (u1.2.2.2 4, .inr (2, figL (X2_init_w0 (fun _ => 0) 1))), (u1.2.2.2 5, .inr (2, figL (X2_init_w0 (fun _ => 0) 0))), (u1.2.2.2 6, .inr (6, [.int 0, .int 0, .int 0, .int 0, .ref (u1.2.2.2 7), .ref (u1.2.2.2 8)])), (u1.2.2.2 7, .inl (cY 0, 600, .inl (fun _ => 0))), (u1.2.2.2 8, .inl (cY 0, 600, .inl (fun _ => 0))), (u1.2.2.2 9, .inr (0, [.int 0, .int 0, .int 0])), (u1.2.2.2 10, .inr (3, [.int 0, .ref (u1.1 0), .ref (u1.2.2.1 18), .ref (u1.2.2.1 15), .ref (u1.2.2.1 16), .ref (u1.2.2.1 17), .int 0])), (u1.2.2.1 15, .inl (cY 3, 5, .inr (.inr (.inr (.inr (fun j => some (u1.2.2.1 j))))))), (u1.2.2.1 16, .inl (cY 0, 4, .inl (fun _ => 0))), (u1.2.2.1 17, .inl (cY 0, 4, .inl (fun _ => 0))), (u1.2.2.1 0, .inr (1, [.ref (u1.1 0), .ref (u1.2.2.1 5), .ref (u1.2.2.1 10)])), (u1.2.2.1 5, .inr (2, figL (X2_init_w0 (fun _ => 0) 1))), (u1.2.2.1 10, .inr (2, figL (X2_init_w0 (fun _ => 0) 0))), (u1.2.2.1 1, .inr (1, [.ref (u1.1 0), .ref (u1.2.2.1 6), .ref (u1.2.2.1 11)])), (u1.2.2.1 6, .inr (2, figL (X2_init_w0 (fun _ => 0) 1))), (u1.2.2.1 11, .inr (2, figL (X2_init_w0 (fun _ => 0) 0))), (u1.2.2.1 2, .inr (1, [.ref (u1.1 0), .ref (u1.2.2.1 7), .ref (u1.2.2.1 12)])), (u1.2.2.1 7, .inr (2, figL (X2_init_w0 (fun _ => 0) 1))), (u1.2.2.1 12, .inr (2, figL (X2_init_w0 (fun _ => 0) 0))), (u1.2.2.1 3, .inr (1, [.ref (u1.1 0), .ref (u1.2.2.1 8), .ref (u1.2.2.1 13)])), (u1.2.2.1 8, .inr (2, figL (X2_init_w0 (fun _ => 0) 1))), (u1.2.2.1 13, .inr (2, figL (X2_init_w0 (fun _ => 0) 0))), (u1.2.2.1 4, .inr (1, [.ref (u1.1 0), .ref (u1.2.2.1 9), .ref (u1.2.2.1 14)])), (u1.2.2.1 9, .inr (2, figL (X2_init_w0 (fun _ => 0) 1))), (u1.2.2.1 14, .inr (2, figL (X2_init_w0 (fun _ => 0) 0))), (u1.2.2.1 18, .inr (1, [.ref (u1.1 0), .ref (u1.2.2.1 19), .ref (u1.2.2.1 20)])), (u1.2.2.1 19, .inr (2, figL (X2_init_w0 (fun _ => 0) 1))), (u1.2.2.1 20, .inr (2, figL (X2_init_w0 (fun _ => 0) 0))), (u1.1 0, .inr (5, [.int 0, .ref (u1.1 1), .ref (u1.1 8)])), (u1.1 1, .inl (cY 2, 6, .inr (.inr (.inr (.inr (fun j => some (u1.1 (2 + j)))))))), (u1.1 2, .inr (4, [.int 0, .int 0, .int 0, .int 0, .int 0, .int 0, .ref (u1.1 9), .ref (u1.1 16)])), (u1.1 3, .inr (4, [.int 0, .int 0, .int 0, .int 0, .int 0, .int 0, .ref (u1.1 10), .ref (u1.1 17)])), (u1.1 4, .inr (4, [.int 0, .int 0, .int 0, .int 0, .int 0, .int 0, .ref (u1.1 11), .ref (u1.1 18)])), (u1.1 5, .inr (4, [.int 0, .int 0, .int 0, .int 0, .int 0, .int 0, .ref (u1.1 12), .ref (u1.1 19)])), (u1.1 6, .inr (4, [.int 0, .int 0, .int 0, .int 0, .int 0, .int 0, .ref (u1.1 13), .ref (u1.1 20)])), (u1.1 7, .inr (4, [.int 0, .int 0, .int 0, .int 0, .int 0, .int 0, .ref (u1.1 14), .ref (u1.1 21)])), (u1.1 8, .inr (4, [.int 0, .int 0, .int 0, .int 0, .int 0, .int 0, .ref (u1.1 15), .ref (u1.1 22)])), (u1.1 9, .inl (cY 0, 5, .inl (fun _ => 0))), (u1.1 10, .inl (cY 0, 5, .inl (fun _ => 0))), (u1.1 11, .inl (cY 0, 5, .inl (fun _ => 0))), (u1.1 12, .inl (cY 0, 5, .inl (fun _ => 0))), (u1.1 13, .inl (cY 0, 5, .inl (fun _ => 0))), (u1.1 14, .inl (cY 0, 5, .inl (fun _ => 0))), (u1.1 15, .inl (cY 0, 5, .inl (fun _ => 0))), (u1.1 16, .inl (cY 1, 6, .inl (fun _ => 0))), (u1.1 17, .inl (cY 1, 6, .inl (fun _ => 0))), (u1.1 18, .inl (cY 1, 6, .inl (fun _ => 0))), (u1.1 19, .inl (cY 1, 6, .inl (fun _ => 0))), (u1.1 20, .inl (cY 1, 6, .inl (fun _ => 0))), (u1.1 21, .inl (cY 1, 6, .inl (fun _ => 0))), (u1.1 22, .inl (cY 1, 6, .inl (fun _ => 0))), (u1.2.1 0, .inr (5, [.int 0, .ref (u1.2.1 1), .ref (u1.2.1 8)])), (u1.2.1 1, .inl (cY 2, 6, .inr (.inr (.inr (.inr (fun j => some (u1.2.1 (2 + j)))))))), (u1.2.1 2, .inr (4, [.int 0, .int 0, .int 0, .int 0, .int 0, .int 0, .ref (u1.2.1 9), .ref (u1.2.1 16)])), (u1.2.1 3, .inr (4, [.int 0, .int 0, .int 0, .int 0, .int 0, .int 0, .ref (u1.2.1 10), .ref (u1.2.1 17)])), (u1.2.1 4, .inr (4, [.int 0, .int 0, .int 0, .int 0, .int 0, .int 0, .ref (u1.2.1 11), .ref (u1.2.1 18)])), (u1.2.1 5, .inr (4, [.int 0, .int 0, .int 0, .int 0, .int 0, .int 0, .ref (u1.2.1 12), .ref (u1.2.1 19)])), (u1.2.1 6, .inr (4, [.int 0, .int 0, .int 0, .int 0, .int 0, .int 0, .ref (u1.2.1 13), .ref (u1.2.1 20)])), (u1.2.1 7, .inr (4, [.int 0, .int 0, .int 0, .int 0, .int 0, .int 0, .ref (u1.2.1 14), .ref (u1.2.1 21)])), (u1.2.1 8, .inr (4, [.int 0, .int 0, .int 0, .int 0, .int 0, .int 0, .ref (u1.2.1 15), .ref (u1.2.1 22)])), (u1.2.1 9, .inl (cY 0, 5, .inl (fun _ => 0))), (u1.2.1 10, .inl (cY 0, 5, .inl (fun _ => 0))), (u1.2.1 11, .inl (cY 0, 5, .inl (fun _ => 0))), (u1.2.1 12, .inl (cY 0, 5, .inl (fun _ => 0))), (u1.2.1 13, .inl (cY 0, 5, .inl (fun _ => 0))), (u1.2.1 14, .inl (cY 0, 5, .inl (fun _ => 0))), (u1.2.1 15, .inl (cY 0, 5, .inl (fun _ => 0))), (u1.2.1 16, .inl (cY 1, 6, .inl (fun _ => 0))), (u1.2.1 17, .inl (cY 1, 6, .inl (fun _ => 0))), (u1.2.1 18, .inl (cY 1, 6, .inl (fun _ => 0))), (u1.2.1 19, .inl (cY 1, 6, .inl (fun _ => 0))), (u1.2.1 20, .inl (cY 1, 6, .inl (fun _ => 0))), (u1.2.1 21, .inl (cY 1, 6, .inl (fun _ => 0))), (u1.2.1 22, .inl (cY 1, 6, .inl (fun _ => 0)))]) (wn := [(x0, .inr (7, [.ref (u1.1 0), .ref (u1.2.1 0), .ref (u1.2.2.2 0), .ref (u1.2.2.2 3), .ref (u1.2.2.2 6), .ref (u1.2.2.2 9), .ref (u1.2.2.2 10), .int 0])), (u1.2.2.2 0, .inr (1, [.ref (u1.2.1 0), .ref (u1.2.2.2 1), .ref (u1.2.2.2 2)])), (u1.2.2.2 1, .inr (2, figL (X2_init_w0 (fun _ => 0) 1))), (u1.2.2.2 2, .inr (2, figL (X2_init_w0 (fun _ => 0) 0))), (u1.2.2.2 3, .inr (1, [.ref (u1.2.1 0), .ref (u1.2.2.2 4), .ref (u1.2.2.2 5)])), (u1.2.2.2 4, .inr (2, figL (X2_init_w0 (fun _ => 0) 1))), (u1.2.2.2 5, .inr (2, figL (X2_init_w0 (fun _ => 0) 0))), (u1.2.2.2 6, .inr (6, [.int 0, .int 0, .int 0, .int 0, .ref (u1.2.2.2 7), .ref (u1.2.2.2 8)])), (u1.2.2.2 7, .inl (cY 0, 600, .inl (fun _ => 0))), (u1.2.2.2 8, .inl (cY 0, 600, .inl (fun _ => 0))), (u1.2.2.2 9, .inr (0, [.int 0, .int 0, .int 0])), (u1.2.2.2 10, .inr (3, [.int 0, .ref (u1.1 0), .ref (u1.2.2.1 18), .ref (u1.2.2.1 15), .ref (u1.2.2.1 16), .ref (u1.2.2.1 17), .int 0])), (u1.2.2.1 15, .inl (cY 3, 5, .inr (.inr (.inr (.inr (fun j => some (u1.2.2.1 j))))))), (u1.2.2.1 16, .inl (cY 0, 4, .inl (fun _ => 0))), (u1.2.2.1 17, .inl (cY 0, 4, .inl (fun _ => 0))), (u1.2.2.1 0, .inr (1, [.ref (u1.1 0), .ref (u1.2.2.1 5), .ref (u1.2.2.1 10)])), (u1.2.2.1 5, .inr (2, figL (X2_init_w0 (fun _ => 0) 1))), (u1.2.2.1 10, .inr (2, figL (X2_init_w0 (fun _ => 0) 0))), (u1.2.2.1 1, .inr (1, [.ref (u1.1 0), .ref (u1.2.2.1 6), .ref (u1.2.2.1 11)])), (u1.2.2.1 6, .inr (2, figL (X2_init_w0 (fun _ => 0) 1))), (u1.2.2.1 11, .inr (2, figL (X2_init_w0 (fun _ => 0) 0))), (u1.2.2.1 2, .inr (1, [.ref (u1.1 0), .ref (u1.2.2.1 7), .ref (u1.2.2.1 12)])), (u1.2.2.1 7, .inr (2, figL (X2_init_w0 (fun _ => 0) 1))), (u1.2.2.1 12, .inr (2, figL (X2_init_w0 (fun _ => 0) 0))), (u1.2.2.1 3, .inr (1, [.ref (u1.1 0), .ref (u1.2.2.1 8), .ref (u1.2.2.1 13)])), (u1.2.2.1 8, .inr (2, figL (X2_init_w0 (fun _ => 0) 1))), (u1.2.2.1 13, .inr (2, figL (X2_init_w0 (fun _ => 0) 0))), (u1.2.2.1 4, .inr (1, [.ref (u1.1 0), .ref (u1.2.2.1 9), .ref (u1.2.2.1 14)])), (u1.2.2.1 9, .inr (2, figL (X2_init_w0 (fun _ => 0) 1))), (u1.2.2.1 14, .inr (2, figL (X2_init_w0 (fun _ => 0) 0))), (u1.2.2.1 18, .inr (1, [.ref (u1.1 0), .ref (u1.2.2.1 19), .ref (u1.2.2.1 20)])), (u1.2.2.1 19, .inr (2, figL (X2_init_w0 (fun _ => 0) 1))), (u1.2.2.1 20, .inr (2, figL (X2_init_w0 (fun _ => 0) 0))), (u1.1 0, .inr (5, [.int 0, .ref (u1.1 1), .ref (u1.1 8)])), (u1.1 1, .inl (cY 2, 6, .inr (.inr (.inr (.inr (fun j => some (u1.1 (2 + j)))))))), (u1.1 2, .inr (4, [.int 0, .int 0, .int 0, .int 0, .int 0, .int 0, .ref (u1.1 9), .ref (u1.1 16)])), (u1.1 3, .inr (4, [.int 0, .int 0, .int 0, .int 0, .int 0, .int 0, .ref (u1.1 10), .ref (u1.1 17)])), (u1.1 4, .inr (4, [.int 0, .int 0, .int 0, .int 0, .int 0, .int 0, .ref (u1.1 11), .ref (u1.1 18)])), (u1.1 5, .inr (4, [.int 0, .int 0, .int 0, .int 0, .int 0, .int 0, .ref (u1.1 12), .ref (u1.1 19)])), (u1.1 6, .inr (4, [.int 0, .int 0, .int 0, .int 0, .int 0, .int 0, .ref (u1.1 13), .ref (u1.1 20)])), (u1.1 7, .inr (4, [.int 0, .int 0, .int 0, .int 0, .int 0, .int 0, .ref (u1.1 14), .ref (u1.1 21)])), (u1.1 8, .inr (4, [.int 0, .int 0, .int 0, .int 0, .int 0, .int 0, .ref (u1.1 15), .ref (u1.1 22)])), (u1.1 9, .inl (cY 0, 5, .inl (fun _ => 0))), (u1.1 10, .inl (cY 0, 5, .inl (fun _ => 0))), (u1.1 11, .inl (cY 0, 5, .inl (fun _ => 0))), (u1.1 12, .inl (cY 0, 5, .inl (fun _ => 0))), (u1.1 13, .inl (cY 0, 5, .inl (fun _ => 0))), (u1.1 14, .inl (cY 0, 5, .inl (fun _ => 0))), (u1.1 15, .inl (cY 0, 5, .inl (fun _ => 0))), (u1.1 16, .inl (cY 1, 6, .inl (fun _ => 0))), (u1.1 17, .inl (cY 1, 6, .inl (fun _ => 0))), (u1.1 18, .inl (cY 1, 6, .inl (fun _ => 0))), (u1.1 19, .inl (cY 1, 6, .inl (fun _ => 0))), (u1.1 20, .inl (cY 1, 6, .inl (fun _ => 0))), (u1.1 21, .inl (cY 1, 6, .inl (fun _ => 0))), (u1.1 22, .inl (cY 1, 6, .inl (fun _ => 0))), (u1.2.1 0, .inr (5, [.int 0, .ref (u1.2.1 1), .ref (u1.2.1 8)])), (u1.2.1 1, .inl (cY 2, 6, .inr (.inr (.inr (.inr (fun j => some (u1.2.1 (2 + j)))))))), (u1.2.1 2, .inr (4, [.int 0, .int 0, .int 0, .int 0, .int 0, .int 0, .ref (u1.2.1 9), .ref (u1.2.1 16)])), (u1.2.1 3, .inr (4, [.int 0, .int 0, .int 0, .int 0, .int 0, .int 0, .ref (u1.2.1 10), .ref (u1.2.1 17)])), (u1.2.1 4, .inr (4, [.int 0, .int 0, .int 0, .int 0, .int 0, .int 0, .ref (u1.2.1 11), .ref (u1.2.1 18)])), (u1.2.1 5, .inr (4, [.int 0, .int 0, .int 0, .int 0, .int 0, .int 0, .ref (u1.2.1 12), .ref (u1.2.1 19)])), (u1.2.1 6, .inr (4, [.int 0, .int 0, .int 0, .int 0, .int 0, .int 0, .ref (u1.2.1 13), .ref (u1.2.1 20)])), (u1.2.1 7, .inr (4, [.int 0, .int 0, .int 0, .int 0, .int 0, .int 0, .ref (u1.2.1 14), .ref (u1.2.1 21)])), (u1.2.1 8, .inr (4, [.int 0, .int 0, .int 0, .int 0, .int 0, .int 0, .ref (u1.2.1 15), .ref (u1.2.1 22)])), (u1.2.1 9, .inl (cY 0, 5, .inl (fun _ => 0))), (u1.2.1 10, .inl (cY 0, 5, .inl (fun _ => 0))), (u1.2.1 11, .inl (cY 0, 5, .inl (fun _ => 0))), (u1.2.1 12, .inl (cY 0, 5, .inl (fun _ => 0))), (u1.2.1 13, .inl (cY 0, 5, .inl (fun _ => 0))), (u1.2.1 14, .inl (cY 0, 5, .inl (fun _ => 0))), (u1.2.1 15, .inl (cY 0, 5, .inl (fun _ => 0))), (u1.2.1 16, .inl (cY 1, 6, .inl (fun _ => 0))), (u1.2.1 17, .inl (cY 1, 6, .inl (fun _ => 0))), (u1.2.1 18, .inl (cY 1, 6, .inl (fun _ => 0))), (u1.2.1 19, .inl (cY 1, 6, .inl (fun _ => 0))), (u1.2.1 20, .inl (cY 1, 6, .inl (fun _ => 0))), (u1.2.1 21, .inl (cY 1, 6, .inl (fun _ => 0))), (u1.2.1 22, .inl (cY 1, 6, .inl (fun _ => 0)))]) hP hD [0] [] rfl rfl (by decide +kernel) (by decide +kernel) hk1 hFc hB ht [0, 1, 2, 3, 4, 5, 6, 7, 8, 9, 10, 11, 12, 13, 14, 15, 16, 17, 18, 19, 20, 21, 22, 23, 24, 25, 26, 27, 28, 29, 30, 31, 32, 33, 34, 35, 36, 37, 38, 39, 40, 41, 42, 43, 44, 45, 46, 47, 48, 49, 50, 51, 52, 53, 54, 55, 56, 57, 58, 59, 60, 61, 62, 63, 64, 65, 66, 67, 68, 69, 70, 71, 72, 73, 74, 75, 76, 77, 78] rfl (by decide +kernel)
  clear hB hk1 hFc hPc hDc hP hD hS hz1 hvm ht t
  obtain ⟨hP1, hD1⟩ := hJ
  generalize H1 = H at hP1 hS1 ⊢
  have hP2 := hP1.sub (ws' := obW cY (fun k => [x0, u1.2.2.2 0, u1.2.2.2 1, u1.2.2.2 2, u1.2.2.2 3, u1.2.2.2 4, u1.2.2.2 5, u1.2.2.2 6, u1.2.2.2 7, u1.2.2.2 8, u1.2.2.2 9, u1.2.2.2 10, u1.2.2.1 18, u1.2.2.1 19, u1.2.2.1 20, u1.2.2.1 15, u1.2.2.1 16, u1.2.2.1 17].getD k 0) u1.1 u1.2.1 u1.2.2.1 u00) [0, 33, 34, 56, 57, 1, 2, 3, 4, 5, 6, 7, 8, 9, 10, 11, 30, 31, 32, 12, 13, 14, 15, 16, 17, 18, 19, 20, 21, 22, 23, 24, 25, 26, 27, 28, 29, 35, 36, 37, 38, 39, 40, 41, 42, 43, 44, 45, 46, 47, 48, 49, 50, 51, 52, 53, 54, 55, 58, 59, 60, 61, 62, 63, 64, 65, 66, 67, 68, 69, 70, 71, 72, 73, 74, 75, 76, 77, 78] rfl
  have hD2 := hD1.sub (ws' := obW cY (fun k => [x0, u1.2.2.2 0, u1.2.2.2 1, u1.2.2.2 2, u1.2.2.2 3, u1.2.2.2 4, u1.2.2.2 5, u1.2.2.2 6, u1.2.2.2 7, u1.2.2.2 8, u1.2.2.2 9, u1.2.2.2 10, u1.2.2.1 18, u1.2.2.1 19, u1.2.2.1 20, u1.2.2.1 15, u1.2.2.1 16, u1.2.2.1 17].getD k 0) u1.1 u1.2.1 u1.2.2.1 u00) [0, 33, 34, 56, 57, 1, 2, 3, 4, 5, 6, 7, 8, 9, 10, 11, 30, 31, 32, 12, 13, 14, 15, 16, 17, 18, 19, 20, 21, 22, 23, 24, 25, 26, 27, 28, 29, 35, 36, 37, 38, 39, 40, 41, 42, 43, 44, 45, 46, 47, 48, 49, 50, 51, 52, 53, 54, 55, 58, 59, 60, 61, 62, 63, 64, 65, 66, 67, 68, 69, 70, 71, 72, 73, 74, 75, 76, 77, 78] (by decide +kernel) rfl
  refine lv_astore_n (lv' := [(1, .ref x0), (0, .ref b)]) hx hb dL_law_7 rfl hl (by decide) rfl (fun ls hl => ?_)
  obtain ⟨Q, hQ⟩ : ∃ Q : Nat → Nat, Q = (fun k => [x0, u1.2.2.2 0, u1.2.2.2 1, u1.2.2.2 2, u1.2.2.2 3, u1.2.2.2 4, u1.2.2.2 5, u1.2.2.2 6, u1.2.2.2 7, u1.2.2.2 8, u1.2.2.2 9, u1.2.2.2 10, u1.2.2.1 18, u1.2.2.1 19, u1.2.2.1 20, u1.2.2.1 15, u1.2.2.1 16, u1.2.2.1 17].getD k 0) := ⟨_, rfl⟩
  rw [← hQ] at hP2 hD2
  have hl : lv_has ls 12 [(1, .ref (Q 0)), (0, .ref b)] := by rw [hQ]; exact hl
  clear hP1 hD1 hQ
  generalize u1.1 = AD at hP2 hD2
  generalize u1.2.1 = AE at hP2 hD2
  generalize u1.2.2.1 = HQ at hP2 hD2
  refine W.widen (k := 100) (n := 2000) (Nat.le_of_ble_eq_true rfl) (Nat.le_of_ble_eq_true rfl) ?_
  exact law_go hL hX hbl hbA hst ⟨hx, hb, hml, hown, hts, hK, hN, xn, xt, xz, hA⟩ mk00 hP2 hD2 hS1 hl (fun {v H locs ls} hP hD hS2 hl => by
    refine lv_iload_n hx hb dL_law_529 rfl (lv_at hl 0 rfl) ?_
    refine W.widen (k := 600074) (n := 7301550) (Nat.le_of_ble_eq_true rfl) (Nat.le_of_ble_eq_true rfl) ?_
    refine va_forget (fun q hq => hS2.2.2 q hq) ?_
    exact lw_ret hx hb0 hr hlocks dL_law_530)
-- ===== YOUR PART ENDS =====
set_option maxHeartbeats 4000000 in
theorem lw_walk (l : Launch) (hflags : l.flags = flags0) (b : Addr) (xs : List Int32) : MetFree l x (headSpec (Jvm.Cond.code x code maxLocals ret :: tables_1) room_1) (lw_P b xs) (fun _ _ _ _ _ => True) lw_Q := by
  refine MetFree.of_bodyS (code := code) (maxLocals := maxLocals) (ret := ret) (by decide) ?_ ?_
  · intro args s m h hn
    obtain ⟨meth, c, h1, h2, h3, h4, h5, h6, -, -⟩ := Cond.code_spec hn (atoms_spec (ws := Jvm.Cond.code x code maxLocals ret :: tables_1) h _ List.mem_cons_self)
    exact ⟨meth, c, h1, h2, h3, h4, h5, h6⟩
  · intro p e s m args below meth c s₁ B hml0 hP _
    obtain ⟨rfl, hx, hbd, hgv⟩ := hP
    obtain ⟨scr, harrAt, hlist, hof, hsmall⟩ := hx
    obtain ⟨hcb, hkn, -, -⟩ := State.arrayAt?_spec harrAt
    have hown : s.vm.findClass R_law = some m.cls := findClass_of_methodNamed B.named
    have hts0 : ∀ c ∈ (Jvm.Cond.code x code maxLocals ret :: tables_1), c.before #[Value.ref b] s = true := atoms_spec (ws := Jvm.Cond.code x code maxLocals ret :: tables_1) B.pre
    have hts : ∀ w ∈ lw_tbl, w.before #[Value.ref b] s = true := k2_hts_sels lw_privs (fun w hw => hts0 w (List.mem_cons_of_mem _ hw)) lw_privs_ok
    have hml : c.maxLocals = 12 := B.maxLocals_eq (hts0 _ List.mem_cons_self)
    have X₀ : Stand p l e room_1 s m #[Value.ref b] below meth c s₁ [] 0 0 := Stand.of_body B
    have hh0 : s₁.heap = s.heap := by rw [B.state]; rfl
    have hsz : scr.slots.size = xs.length := by rw [← Array.length_toList, hlist, List.length_map]
    have hval : ∀ j : Nat, j < xs.length → scr.slots[j]? = some (.int (xs.getD j 0)) := fun j hj => by
      rw [← Array.getElem?_toList, hlist]
      simp [hj]
    have hbl : b < s.heap.size := (Array.getElem?_eq_some_iff.mp hcb).1
    have hX : va_X b xs.length (fun j => xs.getD j 0) s s.heap := ⟨scr, hcb, hof, hkn, hsz, hval⟩
    have K : W p l e room_1 s m #[Value.ref b] below meth c s₁.heap [] 0 0 (lw_Z below #[Value.ref b] s) (entryFrame m ([Value.ref b] : List Value).toArray 12) := by
      rw [hh0]
      exact whole_start l hflags hbd ⟨B.exec, B.bytes, B.returns, hml, hown, hts, hX, hbl, B.notSynchronized, hgv⟩
    obtain ⟨t, a1, o, b1, b2, b3⟩ := K s₁ rfl X₀
    exact ⟨t, o, a1, b1, b2, b3⟩
theorem lw_pre_spec {args : Array Value} {s : State} (h : (Jvm.Cond.and given_1 narrow_1).before args s = true) (hr : rest_1_c.before args s = true) : ∃ (b : Addr) (xs : List Int32), lw_P b xs args s := by
  have hs := flat_of_before _ h
  have hq := flat_of_before _ hr
  have hc : (Cond.count 1).before args s = true := hs _ (by decide +kernel)
  have harr : (Cond.arrayOf (.arg 0) .int).before args s = true := hs _ (by decide +kernel)
  have hle : (Cond.le (.length (.arg 0)) (.int 260)).before args s = true := hs _ (by decide +kernel)
  have hlen : (Cond.isInt (.length (.arg 0))).before args s = true := hq _ (by decide +kernel)
  have hall : (Cond.all (.arg 0) (.isInt (.elem (.arg 0) (.index 0)))).before args s = true := hq _ (by decide +kernel)
  obtain ⟨b, xs, hb, hx⟩ := State.ints_of_pre rfl harr hlen hall
  have hsm : xs.length < 2 ^ 31 := hx.choose_spec.2.2.2
  have hev : (Term.length (.arg 0)).eval args s none [] s = some (.int xs.length.toInt32) := hx.length_eval hb
  have hv := Cond.le_ints hev (show (Term.int 260).eval args s none [] s = some (.int 260) from rfl)
  have hd : xs.length.toInt32 ≤ 260 := by
    simpa [Cond.before, Cond.holds, hv] using hle
  have hN : xs.length ≤ 260 := (Int32.ofNat_le_ofNat hsm (by decide)).mp (show Int32.ofNat xs.length ≤ Int32.ofNat 260 from hd)
  exact ⟨b, xs, Cond.one_arg hc (show args[0]? = some (.ref b) from hb), hx, hN, h⟩
theorem lw_comes (l : Launch) (hflags : l.flags = flags0) : Comes l x (Jvm.Cond.code x code maxLocals ret :: tables_1) room_1 (fun tb e args s => Calls_1 tb e args s ∧ rest_1 tb e args s ∧ Pre_1 tb e args s)
    (fun _ _ args s o t => lw_Q args s o t) := by
  intro p e ha hc hk s m args below hf hfit hheap happ hpre
  obtain ⟨b, xs, hP⟩ := lw_pre_spec hpre.2.2 hpre.2.1
  obtain ⟨k, o, h1, h2, h3, hQ⟩ := lw_walk l hflags b xs p e ha hc hk s m args below hf ((Spec.applies_iff_loose hf).mp happ).1 hP trivial
  exact ⟨k, o, h1, h2, h3, hQ⟩
theorem lw_frame {s t : State} {o : Outcome} {args : Array Value} (h : Framed s o t [] 600074 7301550) :
    Framed s o t (fieldLocs frame_1_writes args s ++ arrayLocs frame_1_arrays args s ++ staticLocs frame_1_statics s) 600074 7301550 := h
theorem lw_limb (L : Cond) (hL : ∀ (args : Array Value) (s t : State), L.after args s (.returned (some (.int 1))) t = true) :
    ArmFor flags0 classFile x code maxLocals ret World_1 tables_1 room_1 Calls_1 rest_1 Pre_1
      (fun tb e a s o t => postC L tb e a s o t ∧ Framed s o t (fieldLocs frame_1_writes a s ++ arrayLocs frame_1_arrays a s ++ staticLocs frame_1_statics s) 600074 7301550) := by
  intro l hflags _ _ p e ha hc hk s m args below hf hfit hheap happ hpre
  obtain ⟨k, o, h1, h2, h3, rfl, hF⟩ := lw_comes l hflags p e ha hc hk s m args below hf hfit hheap happ hpre
  exact ⟨k, _, h1, h2, h3, hL args s _, lw_frame hF⟩
theorem i_vc : Claimed_1_1 ∧ Claimed_1_2 := ⟨lw_limb limb_1_1 (fun args s t => by simp [limb_1_1, Cond.after, Cond.holds, Cond.value]), lw_limb limb_1_2 (fun args s t => Cond.after_iff.mpr (by
  first | (rw [show limb_1_2 = Cond.eq .result (.int 1) from rfl, Cond.eq_ints (x := 1) (y := 1) rfl rfl]; simp; done) | (simp [limb_1_2, Cond.value, Term.eval]; done)))⟩
