/-! an array's numbers told by another function that agrees with it as far as it goes -/
theorem arrV_ext {cA : ClassId} {n : Nat} {f g : Nat → Value} (h : ∀ k, k < n → f k = g k) : arrV cA n f = arrV cA n g := by
  unfold arrV
  congr 1
  apply Array.ext
  · simp
  · intro i h1 h2
    simp only [Array.getElem_ofFn]
    exact h i (by simpa using h1)
theorem va_P.arr {D : va_G} {cl : List vw_C} {ws : va_W} {H : Heap} (hP : va_P D cl ws H) {g : Nat → Int32} (i : Nat) {a n : Nat} {cA : ClassId} {f : Nat → Int32} (hi : ws[i]? = some (a, .inl (cA, n, .inl f))) (h : ∀ k, k < n → f k = g k) : va_P D cl (ws.set i (a, .inl (cA, n, .inl g))) H := by
  intro k q hk
  by_cases e : k = i
  · subst e
    have hl : k < ws.length := (List.getElem?_eq_some_iff.mp hi).1
    rw [List.getElem?_set_self hl] at hk
    cases hk
    have h1 := hP k _ hi
    show H[a]? = some (vp_cell cA (n, .inl g))
    have h2 : H[a]? = some (vp_cell cA (n, .inl f)) := h1
    rw [h2, vp_cell_i, vp_cell_i]
    exact congrArg some (arrV_ext (fun k hk => by rw [h k hk]))
  · rw [List.getElem?_set_ne (fun q => e q.symm)] at hk
    exact hP k q hk
theorem va_D.arr {A : Nat → Prop} {ws : va_W} (hD : va_D A ws) {g : Nat → Int32} (i : Nat) {a n : Nat} {cA : ClassId} {f : Nat → Int32} (hi : ws[i]? = some (a, .inl (cA, n, .inl f))) : va_D A (ws.set i (a, .inl (cA, n, .inl g))) := by
  have hl : i < ws.length := (List.getElem?_eq_some_iff.mp hi).1
  have key : ∀ (k : Nat) (q : Nat × va_E), (ws.set i (a, .inl (cA, n, .inl g)))[k]? = some q → ∃ q', ws[k]? = some q' ∧ q'.1 = q.1 := by
    intro k q hk
    by_cases e : k = i
    · subst e
      rw [List.getElem?_set_self hl] at hk
      cases hk
      exact ⟨_, hi, rfl⟩
    · rw [List.getElem?_set_ne (fun q => e q.symm)] at hk
      exact ⟨q, hk, rfl⟩
  refine ⟨fun k j p q hk hj e => ?_, fun k q hk => ?_⟩
  · obtain ⟨p', hp', ep⟩ := key k p hk
    obtain ⟨q', hq', eq⟩ := key j q hj
    exact hD.1 k j p' q' hp' hq' (by rw [ep, eq, e])
  · obtain ⟨q', hq', eq⟩ := key k q hk
    rw [← eq]
    exact hD.2 k q' hq'
/-- an array of references, likewise -/
theorem va_P.arq {D : va_G} {cl : List vw_C} {ws : va_W} {H : Heap} (hP : va_P D cl ws H) {g : Nat → Option Nat} (i : Nat) {a n : Nat} {cA : ClassId} {f : Nat → Option Nat} (hi : ws[i]? = some (a, .inl (cA, n, .inr (.inr (.inr (.inr f)))))) (h : ∀ k, k < n → f k = g k) : va_P D cl (ws.set i (a, .inl (cA, n, .inr (.inr (.inr (.inr g)))))) H := by
  intro k q hk
  by_cases e : k = i
  · subst e
    have hl : k < ws.length := (List.getElem?_eq_some_iff.mp hi).1
    rw [List.getElem?_set_self hl] at hk
    cases hk
    have h1 := hP k _ hi
    show H[a]? = some (vp_cell cA (n, .inr (.inr (.inr (.inr g)))))
    have h2 : H[a]? = some (vp_cell cA (n, .inr (.inr (.inr (.inr f))))) := h1
    rw [h2, vp_cell_q, vp_cell_q]
    exact congrArg some (arrV_ext (fun k hk => by rw [h k hk]))
  · rw [List.getElem?_set_ne (fun q => e q.symm)] at hk
    exact hP k q hk
theorem va_D.arq {A : Nat → Prop} {ws : va_W} (hD : va_D A ws) {g : Nat → Option Nat} (i : Nat) {a n : Nat} {cA : ClassId} {f : Nat → Option Nat} (hi : ws[i]? = some (a, .inl (cA, n, .inr (.inr (.inr (.inr f)))))) : va_D A (ws.set i (a, .inl (cA, n, .inr (.inr (.inr (.inr g)))))) := by
  have hl : i < ws.length := (List.getElem?_eq_some_iff.mp hi).1
  have key : ∀ (k : Nat) (q : Nat × va_E), (ws.set i (a, .inl (cA, n, .inr (.inr (.inr (.inr g))))))[k]? = some q → ∃ q', ws[k]? = some q' ∧ q'.1 = q.1 := by
    intro k q hk
    by_cases e : k = i
    · subst e
      rw [List.getElem?_set_self hl] at hk
      cases hk
      exact ⟨_, hi, rfl⟩
    · rw [List.getElem?_set_ne (fun q => e q.symm)] at hk
      exact ⟨q, hk, rfl⟩
  refine ⟨fun k j p q hk hj e => ?_, fun k q hk => ?_⟩
  · obtain ⟨p', hp', ep⟩ := key k p hk
    obtain ⟨q', hq', eq⟩ := key j q hj
    exact hD.1 k j p' q' hp' hq' (by rw [ep, eq, e])
  · obtain ⟨q', hq', eq⟩ := key k q hk
    rw [← eq]
    exact hD.2 k q' hq'
theorem kib_le {n : Int32} (h0 : (0 : Int32) ≤ n) (h : n ≤ 4) : (0 : Int32).toNatClampNeg + n.toNatClampNeg ≤ 4 := by
  obtain ⟨j, hj, rfl⟩ := nI_of2 (M := 4) (n := 4) rfl (Int32.not_lt.mpr h0) h
  rw [nI_clamp (by omega)]
  show 0 + j ≤ 4
  omega
