/-! the law's helpers: methods with a table of their own that call what throws -/
theorem met_ofWH {l : Launch} {y : MethodName} {ws ws' : List Cond} {rm : Room} {Pc : Array Value → State → Prop} {Qc : Array Value → State → Outcome → State → Prop} {mc ms : Nat} {free : Addr → Prop} {cc : ByteArray} {maxL : Nat} {ret : Option FieldType} {hh : List (Nat × Nat × Nat × Nat)}
    (hy : plainName y.cls = true) (hw : ws = Cond.codeWith y cc maxL ret hh :: ws')
    (body : ∀ p e s m args below meth c s₁, BodyLoose p l y (headSpec ws rm) cc maxL ret e s m args below meth c s₁ → c.maxLocals = maxL → Pc args s →
      W p l e (headSpec ws rm).room s m args below meth c s.heap [] 0 0 (MQ below Qc args s mc ms free) (entryFrame m args maxL)) : Met l y ws rm Pc Qc mc ms free := by
  refine MetFree.of_bodyS (code := cc) (maxLocals := maxL) (ret := ret) hy ?_ ?_
  · intro args s m h hn
    obtain ⟨m9, meth, c, hn9, h1, h2, h3, h4, -, h5, h6, -⟩ := Cond.codeWith_spec (atoms_spec (ws := ws) h _ (by rw [hw]; exact List.mem_cons_self))
    cases hn.symm.trans hn9
    exact ⟨meth, c, h1, h2, h3, h4, h5, h6⟩
  · intro p e s m args below meth c s₁ B hml hP _
    have hh0 : s₁.heap = s.heap := by rw [B.state]; rfl
    obtain ⟨t, a1, o, b1, b2, b3⟩ := body p e s m args below meth c s₁ B hml hP s₁ hh0 (Stand.of_body B)
    exact ⟨t, o, a1, b1, b2, ⟨b3.1, b3.2⟩⟩
/-- which thrown classes aren't others -/
def lnC (U : State) : Prop := va_Nc "java/lang/IllegalArgumentException" "java/lang/IndexOutOfBoundsException" U ∧ va_Nc "java/lang/IllegalStateException" "java/lang/IndexOutOfBoundsException" U ∧ va_Nc "java/lang/IllegalStateException" "java/lang/IllegalArgumentException" U
theorem lnC.moved {u U : State} (hvm : u.vm.Alike U.vm) (h : lnC u) : lnC U := ⟨va_Nc.moved hvm h.1, va_Nc.moved hvm h.2.1, va_Nc.moved hvm h.2.2⟩
def lPre (D : va_G) (tys : List (ClassId × FieldType)) (ws : va_W) (sz : Nat) : State → Prop := fun U => xPre D tys ws sz U ∧ lnC U
theorem lPre_of {D : va_G} {tys : List (ClassId × FieldType)} {ws : va_W} {s : State} {H : Heap} {A : Nat → Prop} {locs : List Loc} (hP : va_P D vwCl ws H) (hK : va_K D vwCl tys s) (hN : vN s) (hD : va_D A ws) (xn : xN s) (xt : xT s) (xz : xZ A s s.heap) (ln : lnC s) (hS : va_S A s.heap H locs) (hF : ∀ q, va_A ws H.size q → A q) : ∀ U : State, U.heap = H → s.WarmedH U.vm → lPre D tys ws H.size U := fun U hU hW => ⟨xPre_of hP hK hN hD xn xt xz hS hF U hU hW, ln.moved hW.alike⟩
theorem blindL {av : List Value} {D : va_G} {tys : List (ClassId × FieldType)} {ws : va_W} {sz : Nat} : FrameBlind (va_Pc av (lPre D tys ws sz)) := fun a U g mk q => by
  obtain ⟨q0, q1, q2⟩ := q
  exact ⟨(blindX (D := D) (tys := tys) (ws := ws) (sz := sz) a U g mk ⟨q0, q1⟩).1, (blindX (D := D) (tys := tys) (ws := ws) (sz := sz) a U g mk ⟨q0, q1⟩).2, lnC.moved (u := U) (U := U.calling g mk a) (Vm.Alike.refl U.vm) q2⟩
theorem wJoinT {A0 : Nat → Prop} {D : va_G} {X cx wr rx wn pl pm : va_W} {H H1 : Heap} {t : State} {u : Unit} (hP : va_P D vwCl (X ++ pl) H) (hD : va_D A0 (X ++ pl)) (isC isR : List Nat) (hC : isC.map (fun i => X[i]?) = cx.map some) (hR : isR.map (fun i => X[i]?) = wr.map some) (hn : va_nd isR = true) (hdis : ∀ i ∈ isR, i ∉ isC) (hk : ∀ q : Nat, q < H.size → ¬ va_A (cx ++ pl) H.size q → H1[q]? = H[q]?) (hF : ∀ q, va_A (cx ++ pl) H.size q → A0 q) (hB : wPost D (rx ++ pm) (va_A (cx ++ pl) H.size) u t) (ht : t.heap = H1) (isN : List Nat) (hN : isN.map (fun i => (wr ++ rx)[i]?) = wn.map some) (hnN : va_nd isN = true) : va_P D vwCl (wn ++ pm) H1 ∧ va_D A0 (wn ++ pm) := by
  obtain ⟨hP1, hD1⟩ := hB
  rw [ht] at hP1
  obtain ⟨h1, h2⟩ := va_joinP hP hD isC isR hC hR hn hdis hk hF hP1 hD1
  exact ⟨h1.part isN hN, h2.part isN hnN hN⟩
theorem nW_or (g l v : Int32) : X7_needWithin_x g l v = 0 ∨ X7_needWithin_x g l v = 2 := by
  unfold X7_needWithin_x
  split
  · exact Or.inr rfl
  · split
    · exact Or.inl rfl
    · exact Or.inr rfl
theorem nM_or (c m : Int32) : X7_needMove_x c m = 0 ∨ X7_needMove_x c m = 1 := by
  unfold X7_needMove_x
  split
  · exact Or.inr rfl
  · exact Or.inl rfl
theorem nN_or (c i : Int32) : X7_needInput_x c i = 0 ∨ X7_needInput_x c i = 2 := by
  unfold X7_needInput_x
  split
  · split
    · exact Or.inr rfl
    · exact Or.inl rfl
  · exact Or.inl rfl
theorem nR_or (g : Int32) : X7_needNoRound_x g = 0 ∨ X7_needNoRound_x g = 3 := by
  unfold X7_needNoRound_x
  split
  · exact Or.inl rfl
  · exact Or.inr rfl
theorem nF_or (f : Int32) : X7_needFigure_x f = 0 ∨ X7_needFigure_x f = 1 := by
  unfold X7_needFigure_x
  split
  · exact Or.inl rfl
  · split
    · exact Or.inl rfl
    · exact Or.inr rfl
theorem iteP {c : Prop} [Decidable c] {a b : Int32} (P : Int32 → Prop) (ha : P a) (hb : P b) : P (if c then a else b) := by
  split
  · exact ha
  · exact hb
