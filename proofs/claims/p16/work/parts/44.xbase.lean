/-! methods that throw: what they take as given, what stands behind a throw -/
abbrev xNm : List String := ["java/lang/RuntimeException", "java/lang/Exception"]
/-- by its code: which class is thrown -/
def xE (k : Int32) : String := if k = 1 then "java/lang/IndexOutOfBoundsException" else if k = 2 then "java/lang/IllegalArgumentException" else "java/lang/IllegalStateException"
/-- words of a throw that no word list holds -/
def xN (U : State) : Prop := va_Nw (.declares (Bundle.initS "java/lang/RuntimeException")) U ∧ va_Nw (.declares (Bundle.initS "java/lang/Exception")) U ∧ va_Nw (.declares (Bundle.initS Bundle.tN)) U ∧ va_Nw (.castable "java/lang/IndexOutOfBoundsException" "java/lang/IndexOutOfBoundsException") U ∧ va_Nw (.castable "java/lang/IllegalArgumentException" "java/lang/IllegalArgumentException") U ∧ va_Nw (.castable "java/lang/IllegalStateException" "java/lang/IllegalStateException") U
theorem xN.warm {s U : State} (hW : s.WarmedH U.vm) (h : xN s) : xN U := ⟨va_Nw.warmD hW h.1, va_Nw.warmD hW h.2.1, va_Nw.warmD hW h.2.2.1, va_Nw.warmC hW h.2.2.2.1, va_Nw.warmC hW h.2.2.2.2.1, va_Nw.warmC hW h.2.2.2.2.2⟩
theorem xN.same {u U : State} (e : u.vm = U.vm) (h : xN u) : xN U := ⟨va_Nw.same rfl e h.1, va_Nw.same rfl e h.2.1, va_Nw.same rfl e h.2.2.1, va_Nw.same rfl e h.2.2.2.1, va_Nw.same rfl e h.2.2.2.2.1, va_Nw.same rfl e h.2.2.2.2.2⟩
/-- the texts -/
def xW : List (Nat × String) := [(69, "there are as many moves as can be"), (106, "the figures are not evenly apart"), (143, "no round goes on"), (172, "no such frame"), (203, "no such place"), (216, "no such move"), (218, "no such input"), (220, "a round goes on"), (222, "no such figure"), (224, "an argument is out of its range")]
def xT (U : State) : Prop := ∀ q ∈ xW, ∃ a, vk_R RX7 q.1 q.2 a U
theorem xT.warm {s U : State} (hW : s.WarmedH U.vm) (h : xT s) : xT U := fun q hq => by
  obtain ⟨a, ha⟩ := h q hq
  exact ⟨a, vk_R.warm hW ha⟩
theorem xT.same {u U : State} (e : u.vm = U.vm) (h : xT u) : xT U := fun q hq => by
  obtain ⟨a, ha⟩ := h q hq
  exact ⟨a, vk_R.same e.symm ha⟩
/-- two statics of Throwable, outside what is written -/
def xZ (A : Nat → Prop) (U : State) (H : Heap) : Prop := vx_Zq Bundle.tN "UNASSIGNED_STACK" Bundle.steD A U H ∧ vx_Zq Bundle.tN "SUPPRESSED_SENTINEL" Bundle.listD A U H
theorem xZ.moved {A : Nat → Prop} {u U : State} {H : Heap} (hvm : u.vm.Alike U.vm) (h : xZ A u H) : xZ A U H := ⟨vx_Zq.moved hvm h.1, vx_Zq.moved hvm h.2⟩
theorem xZ.kept {A : Nat → Prop} {U : State} {H H1 : Heap} (h : xZ A U H) (hq : ∀ a : Nat, a < H.size → ¬ A a → H1[a]? = H[a]?) : xZ A U H1 := ⟨vx_Zq.kept h.1 hq, vx_Zq.kept h.2 hq⟩
theorem xZ.narrow {A B : Nat → Prop} {U : State} {H : Heap} (h : xZ A U H) (hAB : ∀ q, B q → A q) : xZ B U H := ⟨vx_Zq.narrow h.1 hAB, vx_Zq.narrow h.2 hAB⟩
def xPre (D : va_G) (tys : List (ClassId × FieldType)) (ws : va_W) (sz : Nat) : State → Prop := fun U => U.heap.size = sz ∧ va_P D vwCl ws U.heap ∧ va_K D vwCl tys U ∧ vN U ∧ va_D (fun _ => True) ws ∧ xN U ∧ xT U ∧ xZ (va_A ws sz) U U.heap
theorem xPre_of {D : va_G} {tys : List (ClassId × FieldType)} {ws : va_W} {s : State} {H : Heap} {A : Nat → Prop} {locs : List Loc} (hP : va_P D vwCl ws H) (hK : va_K D vwCl tys s) (hN : vN s) (hD : va_D A ws) (xn : xN s) (xt : xT s) (xz : xZ A s s.heap) (hS : va_S A s.heap H locs) (hF : ∀ q, va_A ws H.size q → A q) : ∀ U : State, U.heap = H → s.WarmedH U.vm → xPre D tys ws H.size U := fun U hU hW => ⟨by rw [hU], by rw [hU]; exact hP, va_K.moved hW.alike hK, hN.warm hW, hD.weaken (fun _ _ _ _ => trivial), xn.warm hW, xt.warm hW, by rw [hU]; exact ((xz.kept hS.2.1).moved hW.alike).narrow hF⟩
theorem blindX {av : List Value} {D : va_G} {tys : List (ClassId × FieldType)} {ws : va_W} {sz : Nat} : FrameBlind (va_Pc av (xPre D tys ws sz)) := fun a U g mk q => by
  obtain ⟨q0, q1, qP, qK, qN, qD, qn, qt, qz⟩ := q
  exact ⟨q0, q1, qP, va_K.moved (u := U) (U := U.calling g mk a) (Vm.Alike.refl U.vm) qK, vN.same (u := U) (U := U.calling g mk a) rfl qN, qD, xN.same (u := U) (U := U.calling g mk a) rfl qn, xT.same (u := U) (U := U.calling g mk a) rfl qt, xZ.moved (u := U) (U := U.calling g mk a) (Vm.Alike.refl U.vm) qz⟩
theorem va_S.ext {A : Nat → Prop} {H0 H H1 : Heap} {locs : List Loc} (hS : va_S A H0 H locs) (h1 : H.size ≤ H1.size) (h2 : ∀ q : Nat, q < H.size → H1[q]? = H[q]?) : va_S A H0 H1 locs := ⟨Nat.le_trans hS.1 h1, fun q a b => (h2 q (Nat.lt_of_lt_of_le a hS.1)).trans (hS.2.1 q a b), hS.2.2⟩
theorem va_P.ext {D : va_G} {cl : List vw_C} {ws : va_W} {H H1 : Heap} (hP : va_P D cl ws H) (h2 : ∀ q : Nat, q < H.size → H1[q]? = H[q]?) : va_P D cl ws H1 := hP.kept (fun k x hx => h2 x.1 ((hP k x hx).lt))
/-- behind a throw: the class by its code, the world as it was -/
def xPost (D : va_G) (ws : va_W) (A : Nat → Prop) (k : Int32) : String → Unit → State → Prop := fun E _ t => E = xE k ∧ va_P D vwCl ws t.heap ∧ va_D A ws
theorem xhat174 {args : Array Value} {s : State} (h : ∀ w ∈ (vx_atS RX7 174 "java/lang/IndexOutOfBoundsException" ["java/lang/RuntimeException", "java/lang/Exception"]).filter goodWord, w.before args s = true) (n : xN s) : ∀ w ∈ vx_atS RX7 174 "java/lang/IndexOutOfBoundsException" ["java/lang/RuntimeException", "java/lang/Exception"], w.before args s = true :=
  vx_hat (B := [.declares (Bundle.initS "java/lang/RuntimeException"), .declares (Bundle.initS "java/lang/Exception"), .declares (Bundle.initS Bundle.tN), .castable "java/lang/IndexOutOfBoundsException" "java/lang/IndexOutOfBoundsException"]) h (by decide +kernel) (vx_c (va_Nw.use rfl n.1) (vx_c (va_Nw.use rfl n.2.1) (vx_c (va_Nw.use rfl n.2.2.1) (vx_c (va_Nw.use rfl n.2.2.2.1) vx_n))))
theorem xhat108 {args : Array Value} {s : State} (h : ∀ w ∈ (vx_atS RX7 108 "java/lang/IllegalArgumentException" ["java/lang/RuntimeException", "java/lang/Exception"]).filter goodWord, w.before args s = true) (n : xN s) : ∀ w ∈ vx_atS RX7 108 "java/lang/IllegalArgumentException" ["java/lang/RuntimeException", "java/lang/Exception"], w.before args s = true :=
  vx_hat (B := [.declares (Bundle.initS "java/lang/RuntimeException"), .declares (Bundle.initS "java/lang/Exception"), .declares (Bundle.initS Bundle.tN), .castable "java/lang/IllegalArgumentException" "java/lang/IllegalArgumentException"]) h (by decide +kernel) (vx_c (va_Nw.use rfl n.1) (vx_c (va_Nw.use rfl n.2.1) (vx_c (va_Nw.use rfl n.2.2.1) (vx_c (va_Nw.use rfl n.2.2.2.2.1) vx_n))))
theorem xhat71 {args : Array Value} {s : State} (h : ∀ w ∈ (vx_atS RX7 71 "java/lang/IllegalStateException" ["java/lang/RuntimeException", "java/lang/Exception"]).filter goodWord, w.before args s = true) (n : xN s) : ∀ w ∈ vx_atS RX7 71 "java/lang/IllegalStateException" ["java/lang/RuntimeException", "java/lang/Exception"], w.before args s = true :=
  vx_hat (B := [.declares (Bundle.initS "java/lang/RuntimeException"), .declares (Bundle.initS "java/lang/Exception"), .declares (Bundle.initS Bundle.tN), .castable "java/lang/IllegalStateException" "java/lang/IllegalStateException"]) h (by decide +kernel) (vx_c (va_Nw.use rfl n.1) (vx_c (va_Nw.use rfl n.2.1) (vx_c (va_Nw.use rfl n.2.2.1) (vx_c (va_Nw.use rfl n.2.2.2.2.2) vx_n))))
theorem xgood174 : ∀ w ∈ Cond.classLink RX7 170 "java/lang/IndexOutOfBoundsException" :: Cond.initialized "java/lang/IndexOutOfBoundsException" :: vx_atS RX7 174 "java/lang/IndexOutOfBoundsException" ["java/lang/RuntimeException", "java/lang/Exception"], vx_ot w = true := by decide +kernel
theorem xgood108 : ∀ w ∈ Cond.classLink RX7 104 "java/lang/IllegalArgumentException" :: Cond.initialized "java/lang/IllegalArgumentException" :: vx_atS RX7 108 "java/lang/IllegalArgumentException" ["java/lang/RuntimeException", "java/lang/Exception"], vx_ot w = true := by decide +kernel
theorem xgood71 : ∀ w ∈ Cond.classLink RX7 67 "java/lang/IllegalStateException" :: Cond.initialized "java/lang/IllegalStateException" :: vx_atS RX7 71 "java/lang/IllegalStateException" ["java/lang/RuntimeException", "java/lang/Exception"], vx_ot w = true := by decide +kernel
