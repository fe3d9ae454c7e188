/-! one object's world, whole, and what a method leaves of it -/
def mvN (MV MVR : Nat → Nat → Int32) : Nat → Nat → Int32 := fun i => if i = 6 then MVR 6 else MV i
/-- a state: the numbers, the figures and rows, the moves, the round's moves -/
abbrev zS : Type := (Nat → Int32) × (Nat → Nat → Int32) × (Nat → Nat → Int32) × (Nat → Nat → Int32)
def obW (cY : Nat → ClassId) (Q AD AE HQ : Nat → Nat) (u : zS) : va_W := [((Q 0), .inr (7, [.ref (AD 0), .ref (AE 0), .ref (Q 1), .ref (Q 4), .ref (Q 7), .ref (Q 10), .ref (Q 11), .int (u.1 0)])), ((AD 0), .inr (5, [.int (u.1 1), .ref (AD 1), .ref (AD 8)])), ((AD 1), .inl (cY 2, 6, .inr (.inr (.inr (.inr (fun j => some (AD (2 + j)))))))), ((AE 0), .inr (5, [.int (u.1 2), .ref (AE 1), .ref (AE 8)])), ((AE 1), .inl (cY 2, 6, .inr (.inr (.inr (.inr (fun j => some (AE (2 + j)))))))), ((Q 1), .inr (1, [.ref (AE 0), .ref (Q 2), .ref (Q 3)])), ((Q 2), .inr (2, figL (u.2.1 0))), ((Q 3), .inr (2, figL (u.2.1 1))), ((Q 4), .inr (1, [.ref (AE 0), .ref (Q 5), .ref (Q 6)])), ((Q 5), .inr (2, figL (u.2.1 2))), ((Q 6), .inr (2, figL (u.2.1 3))), ((Q 7), .inr (6, [.int (u.1 3), .int (u.1 4), .int (u.1 5), .int (u.1 6), .ref (Q 8), .ref (Q 9)])), ((Q 8), .inl (cY 0, 600, .inl (u.2.1 6))), ((Q 9), .inl (cY 0, 600, .inl (u.2.1 7))), ((Q 10), .inr (0, [.int (u.1 7), .int (u.1 8), .int (u.1 9)])), ((Q 11), .inr (3, [.int (u.1 10), .ref (AD 0), .ref (Q 12), .ref (Q 15), .ref (Q 16), .ref (Q 17), .int (u.1 11)])), ((Q 12), .inr (1, [.ref (AD 0), .ref (Q 13), .ref (Q 14)])), ((Q 13), .inr (2, figL (u.2.1 4))), ((Q 14), .inr (2, figL (u.2.1 5))), ((Q 15), .inl (cY 3, 5, .inr (.inr (.inr (.inr (fun j => some (HQ j))))))), ((Q 16), .inl (cY 0, 4, .inl (u.2.1 8))), ((Q 17), .inl (cY 0, 4, .inl (u.2.1 9))), ((HQ 0), .inr (1, [.ref (AD 0), .ref (HQ 5), .ref (HQ 10)])), ((HQ 5), .inr (2, figL (u.2.1 10))), ((HQ 10), .inr (2, figL (u.2.1 11))), ((HQ 1), .inr (1, [.ref (AD 0), .ref (HQ 6), .ref (HQ 11)])), ((HQ 6), .inr (2, figL (u.2.1 12))), ((HQ 11), .inr (2, figL (u.2.1 13))), ((HQ 2), .inr (1, [.ref (AD 0), .ref (HQ 7), .ref (HQ 12)])), ((HQ 7), .inr (2, figL (u.2.1 14))), ((HQ 12), .inr (2, figL (u.2.1 15))), ((HQ 3), .inr (1, [.ref (AD 0), .ref (HQ 8), .ref (HQ 13)])), ((HQ 8), .inr (2, figL (u.2.1 16))), ((HQ 13), .inr (2, figL (u.2.1 17))), ((HQ 4), .inr (1, [.ref (AD 0), .ref (HQ 9), .ref (HQ 14)])), ((HQ 9), .inr (2, figL (u.2.1 18))), ((HQ 14), .inr (2, figL (u.2.1 19)))] ++ (bkM AD cY u.2.2.1 ++ bkM AE cY u.2.2.2)
theorem zm_fm {ws wc : va_W} {is : List Nat} (h : is.map (fun i => ws[i]?) = wc.map some) : is.filterMap (fun i => ws[i]?) = wc := by
  have := congrArg (List.filterMap id) h
  simpa [List.filterMap_map, Function.comp_def] using this
theorem zm_A {ws wc : va_W} {sz : Nat} {is : List Nat} (h : is.map (fun i => ws[i]?) = wc.map some) : ∀ q, va_A wc sz q → va_A ws sz q := by
  intro q hq
  rcases hq with ⟨k, e, hk⟩ | hq
  · have h2 := congrArg (fun l => l[k]?) h
    simp only [List.getElem?_map, hk, Option.map_some] at h2
    cases hi : is[k]? with
    | none => rw [hi] at h2; simp at h2
    | some i =>
      rw [hi] at h2
      simp only [Option.map_some, Option.some.injEq] at h2
      exact Or.inl ⟨i, e, h2⟩
  · exact Or.inr hq
theorem zm_pre {D : va_G} {tys : List (ClassId × FieldType)} {ws wc : va_W} {sz : Nat} {U : State} (is : List Nat) (hn : va_nd is = true) (h : is.map (fun i => ws[i]?) = wc.map some) (hp : xPre D tys ws sz U) : xPre D tys wc sz U := by
  obtain ⟨a, b, c, d, e, f, g, i⟩ := hp
  exact ⟨a, b.sub is (zm_fm h), c, d, e.sub is hn h, f, g, i.narrow (zm_A h)⟩
/-- a contract of a part of the world, over the whole: where it does not throw -/
theorem zm_wrap {l : Launch} {y : MethodName} {ws : List Cond} {rm : Room} {av : List Value} {D : va_G} {tys : List (ClassId × FieldType)} {W wc wr w1 : va_W} {sz : Nat} {post : Int32 → Unit → Prop} {px : Unit → Prop} {BX : String → Unit → State → Prop} {AX : Nat → Prop} {mc ms : Nat} {cY : Nat → ClassId} {Q AD AE HQ : Nat → Nat} {post' : Int32 → zS → Prop}
    (h : vx_Met l y ws rm (va_Pc av (xPre D tys wc sz)) (va_Qi post (wPost D w1 (va_A wc sz)) (va_A wc sz)) (vx_X px BX AX) mc ms (va_A wc sz)) (hno : ¬ px ()) (isC isR isN : List Nat) (hC : isC.map (fun i => W[i]?) = wc.map some) (hR : isR.map (fun i => W[i]?) = wr.map some) (hnC : va_nd isC = true) (hnR : va_nd isR = true) (hdis : ∀ i ∈ isR, i ∉ isC) (hnN : va_nd isN = true)
    (hq : ∀ r, post r () → ∃ u, post' r u ∧ isN.map (fun i => (wr ++ w1)[i]?) = (obW cY Q AD AE HQ u).map some) :
    Met l y ws rm (va_Pc av (xPre D tys W sz)) (va_Qi post' (fun u t => wPost D (obW cY Q AD AE HQ u) (va_A W sz) () t) (va_A W sz)) mc ms (va_A W sz) := by
  intro p e ha hc hk s m args below hf hsp hp hK
  obtain ⟨hav, hpre⟩ := hp
  obtain ⟨n, o, h1, h2, h3, h4⟩ := h p e ha hc hk s m args below hf hsp ⟨hav, zm_pre isC hnC hC hpre⟩ hK
  refine ⟨n, o, h1, h2, h3, ?_⟩
  rcases h4 with ⟨⟨⟨r, u0, ho, hr, hB⟩, hF⟩, L, hL, hfr⟩ | ⟨q, ho, E, ce, L, ⟨ux, hx, -⟩, -⟩
  · obtain ⟨u, hu, hN⟩ := hq r hr
    obtain ⟨hsz, hP, -, -, hD, -⟩ := hpre
    subst hsz
    obtain ⟨hP1, hD1⟩ := wJoin hP (hD.self (sz := s.heap.size)) isC isR hC hR hnR hdis (fun q a b => hF.2 q a b) (zm_A hC) hB rfl isN hN hnN
    exact ⟨⟨⟨r, u, ho, hu, hP1, hD1⟩, hF.1, fun q a b => hF.2 q a (fun z => b (zm_A hC q z))⟩, L, hL, fun q hq => zm_A hC _ (hfr q hq)⟩
  · exact absurd hx hno
/-- the same of one that reads alone -/
theorem zm_read {l : Launch} {y : MethodName} {ws : List Cond} {rm : Room} {av : List Value} {D : va_G} {tys : List (ClassId × FieldType)} {wc : va_W} {sz : Nat} {post : Int32 → Prop} {mc ms : Nat} {cY : Nat → ClassId} {Q AD AE HQ : Nat → Nat} {u : zS}
    (h : Met l y ws rm (va_Pc av (rPre D tys wc)) (vp_Si post) mc ms (fun _ => False)) (isC : List Nat) (hC : isC.map (fun i => (obW cY Q AD AE HQ u)[i]?) = wc.map some) :
    Met l y ws rm (va_Pc av (xPre D tys (obW cY Q AD AE HQ u) sz)) (va_Qi (fun r u1 => post r ∧ u1 = u) (fun u1 t => wPost D (obW cY Q AD AE HQ u1) (va_A (obW cY Q AD AE HQ u) sz) () t) (va_A (obW cY Q AD AE HQ u) sz)) mc ms (va_A (obW cY Q AD AE HQ u) sz) := by
  intro p e ha hc hk s m args below hf hsp hp hK
  obtain ⟨hav, hsz, hP, hKK, hN, hD, -⟩ := hp
  obtain ⟨n, o, h1, h2, h3, ⟨r, ho, hr, hh⟩, L, hL, hfr⟩ := h p e ha hc hk s m args below hf hsp ⟨hav, hP.sub isC (zm_fm hC), hKK, hN⟩ hK
  refine ⟨n, o, h1, h2, h3, ⟨⟨r, u, ho, ⟨hr, rfl⟩, ?_⟩, ?_⟩, L, hL, fun q hq => (hfr q hq).elim⟩
  · exact ⟨by rw [hh]; exact hP, hD.self⟩
  · exact ⟨by rw [hh]; exact Nat.le_refl _, fun q _ _ => by rw [hh]⟩
/-- an answer told in other words -/
theorem zm_mono {l : Launch} {y : MethodName} {ws : List Cond} {rm : Room} {Pc : Array Value → State → Prop} {S : Type} {post post' : Int32 → S → Prop} {B : S → State → Prop} {A : Nat → Prop} {mc ms : Nat} {free : Addr → Prop} (h : Met l y ws rm Pc (va_Qi post B A) mc ms free) (hq : ∀ r u, post r u → post' r u) : Met l y ws rm Pc (va_Qi post' B A) mc ms free := by
  intro p e ha hc hk s m args below hf hsp hp hK
  obtain ⟨n, o, h1, h2, h3, ⟨⟨r, u, ho, hr, hB⟩, hF⟩, hL⟩ := h p e ha hc hk s m args below hf hsp hp hK
  exact ⟨n, o, h1, h2, h3, ⟨⟨r, u, ho, hq r u hr, hB⟩, hF⟩, hL⟩
