/-! a move of a bank written -/
theorem va_P.pick {D : va_G} {cl : List vw_C} {ws ws' : va_W} {H : Heap} (hP : va_P D cl ws H) (h : ∀ (k : Nat) (q : Nat × va_E), ws'[k]? = some q → ∃ j : Nat, ws[j]? = some q) : va_P D cl ws' H := fun k q hk => by
  obtain ⟨j, hj⟩ := h k q hk
  exact hP j q hj
theorem va_D.pick {A : Nat → Prop} {ws ws' : va_W} (hD : va_D A ws) (f : Nat → Nat) (h : ∀ (k : Nat) (q : Nat × va_E), ws'[k]? = some q → ws[f k]? = some q) (hf : ∀ j k : Nat, j < ws'.length → k < ws'.length → f j = f k → j = k) : va_D A ws' := by
  refine ⟨fun i j p q hi hj e => ?_, fun k q hk => hD.2 _ q (h k q hk)⟩
  exact hf i j (List.getElem?_eq_some_iff.mp hi).1 (List.getElem?_eq_some_iff.mp hj).1 (hD.1 _ _ p q (h i p hi) (h j q hj) e)
/-- some cells of a world written by a callee, in their places -/
theorem wRepl {A0 : Nat → Prop} {D : va_G} {ws wn wc w1 : va_W} {H H1 : Heap} {t : State} {u : Unit} (hP : va_P D vwCl ws H) (hD : va_D A0 ws) (f : Nat → Nat) (hC : ∀ (k : Nat) (q : Nat × va_E), wc[k]? = some q → ws[f k]? = some q) (hnew : ∀ (k : Nat) (q : Nat × va_E), wn[k]? = some q → (∃ j : Nat, w1[j]? = some q) ∨ (ws[k]? = some q ∧ ∀ j, j < wc.length → f j ≠ k)) (hadr : ∀ (k : Nat) (q : Nat × va_E), wn[k]? = some q → ∃ q0 : Nat × va_E, ws[k]? = some q0 ∧ q0.1 = q.1) (hk : ∀ q : Nat, q < H.size → ¬ va_A wc H.size q → H1[q]? = H[q]?) (hB : wPost D w1 (va_A wc H.size) u t) (ht : t.heap = H1) : va_P D vwCl wn H1 ∧ va_D A0 wn := by
  refine ⟨fun k q hq => ?_, fun i j p q hi hj e => ?_, fun k q hq => ?_⟩
  · rcases hnew k q hq with ⟨j, hj⟩ | ⟨hw, hne⟩
    · have := hB.1 j q hj
      rw [ht] at this
      exact this
    · have h0 := hP k q hw
      refine h0.kept (hk q.1 h0.lt ?_)
      rintro (⟨j, e, hj⟩ | hge)
      · exact hne j (List.getElem?_eq_some_iff.mp hj).1 (hD.1 _ _ _ _ (hC j _ hj) hw rfl)
      · exact absurd h0.lt (Nat.not_lt.mpr hge)
  · obtain ⟨p0, hp0, ep⟩ := hadr i p hi
    obtain ⟨q0, hq0, eq⟩ := hadr j q hj
    exact hD.1 i j p0 q0 hp0 hq0 (by rw [ep, eq, e])
  · obtain ⟨q0, hq0, eq⟩ := hadr k q hq
    rw [← eq]
    exact hD.2 k q0 hq0
def bkE (AD : Nat → Nat) (cY : Nat → ClassId) (mv : Nat → Int32) (c i : Nat) : Nat × va_E := if c = 0 then (AD (2 + i), .inr (4, [.int (mv 0), .int (mv 1), .int (mv 2), .int (mv 3), .int (mv 4), .int (mv 5), .ref (AD (9 + i)), .ref (AD (16 + i))])) else if c = 1 then (AD (9 + i), .inl (cY 0, 5, .inl (fun k => mv (6 + k)))) else (AD (16 + i), .inl (cY 1, 6, .inl (fun k => mv (11 + k))))
theorem bk_len (AD : Nat → Nat) (cY : Nat → ClassId) (MV : Nat → Nat → Int32) : (bkM AD cY MV).length = 21 := rfl
theorem bk_get (AD : Nat → Nat) (cY : Nat → ClassId) (MV : Nat → Nat → Int32) : ∀ j : Nat, j < 21 → (bkM AD cY MV)[j]? = some (bkE AD cY (MV (j % 7)) (j / 7) (j % 7))
  | 0, _ => rfl
  | 1, _ => rfl
  | 2, _ => rfl
  | 3, _ => rfl
  | 4, _ => rfl
  | 5, _ => rfl
  | 6, _ => rfl
  | 7, _ => rfl
  | 8, _ => rfl
  | 9, _ => rfl
  | 10, _ => rfl
  | 11, _ => rfl
  | 12, _ => rfl
  | 13, _ => rfl
  | 14, _ => rfl
  | 15, _ => rfl
  | 16, _ => rfl
  | 17, _ => rfl
  | 18, _ => rfl
  | 19, _ => rfl
  | 20, _ => rfl
  | n + 21, h => absurd h (by omega)
theorem mvC_get (AD : Nat → Nat) (cY : Nat → ClassId) (mv : Nat → Int32) (i : Nat) : ∀ c : Nat, c < 3 → (mvC (AD (2 + i)) (AD (9 + i)) (AD (16 + i)) cY mv)[c]? = some (bkE AD cY mv c i)
  | 0, _ => rfl
  | 1, _ => rfl
  | 2, _ => rfl
  | n + 3, h => absurd h (by omega)
theorem mvC_in {AD : Nat → Nat} {cY : Nat → ClassId} {MV : Nat → Nat → Int32} {X : va_W} {i : Nat} (hi : i < 7) (k : Nat) (q : Nat × va_E) (h : (mvC (AD (2 + i)) (AD (9 + i)) (AD (16 + i)) cY (MV i))[k]? = some q) : (X ++ bkM AD cY MV)[X.length + (7 * k + i)]? = some q := by
  have hk : k < 3 := (List.getElem?_eq_some_iff.mp h).1
  rw [mvC_get AD cY (MV i) i k hk] at h
  rw [List.getElem?_append_right (Nat.le_add_right _ _), Nat.add_sub_cancel_left, bk_get AD cY MV _ (by omega), show (7 * k + i) / 7 = k by omega, show (7 * k + i) % 7 = i by omega]
  exact h
theorem bk_D {A : Nat → Prop} {AD : Nat → Nat} {cY : Nat → ClassId} {MV : Nat → Nat → Int32} {X : va_W} {i : Nat} (hi : i < 7) (hD : va_D A (X ++ bkM AD cY MV)) : va_D A (mvC (AD (2 + i)) (AD (9 + i)) (AD (16 + i)) cY (MV i)) :=
  hD.pick (fun k => X.length + (7 * k + i)) (mvC_in hi) (fun j k _ _ e => by have e2 : X.length + (7 * j + i) = X.length + (7 * k + i) := e; omega)
theorem bk_F {A0 : Nat → Prop} {AD : Nat → Nat} {cY : Nat → ClassId} {MV : Nat → Nat → Int32} {X : va_W} {i : Nat} {H0 H : Heap} {locs : List Loc} (hi : i < 7) (hD : va_D A0 (X ++ bkM AD cY MV)) (hS : va_S A0 H0 H locs) (hA : ∀ q, H0.size ≤ q → A0 q) : ∀ q, va_A (mvC (AD (2 + i)) (AD (9 + i)) (AD (16 + i)) cY (MV i)) H.size q → A0 q := by
  intro q h
  rcases h with ⟨k, e, h⟩ | h
  · exact (bk_D hi hD).2 k (q, e) h
  · exact hA q (Nat.le_trans hS.1 h)
def mvS (MV : Nat → Nat → Int32) (i : Nat) (row : Nat → Int32) : Nat → Nat → Int32 := fun j => if j = i then row else MV j
def rowM (a0 a1 a2 a3 a4 a5 : Int32) (tr inn : Nat → Int32) : Nat → Int32 := fun k => if k = 0 then a0 else if k = 1 then a1 else if k = 2 then a2 else if k = 3 then a3 else if k = 4 then a4 else if k = 5 then a5 else if k < 11 then tr (k - 6) else inn (k - 11)
theorem rowM_t {a0 a1 a2 a3 a4 a5 : Int32} {tr inn : Nat → Int32} {k : Nat} (h : k < 5) : rowM a0 a1 a2 a3 a4 a5 tr inn (6 + k) = tr k := by
  unfold rowM
  rw [if_neg (by omega), if_neg (by omega), if_neg (by omega), if_neg (by omega), if_neg (by omega), if_neg (by omega), if_pos (by omega), Nat.add_sub_cancel_left]
theorem rowM_i {a0 a1 a2 a3 a4 a5 : Int32} {tr inn : Nat → Int32} {k : Nat} : rowM a0 a1 a2 a3 a4 a5 tr inn (11 + k) = inn k := by
  unfold rowM
  rw [if_neg (by omega), if_neg (by omega), if_neg (by omega), if_neg (by omega), if_neg (by omega), if_neg (by omega), if_neg (by omega), Nat.add_sub_cancel_left]
theorem mvRow {D : va_G} {cY : Nat → ClassId} {A : Nat → Prop} {u : Unit} {t : State} {h ht hi : Nat} {a0 a1 a2 a3 a4 a5 : Int32} {tr inn : Nat → Int32} (hB : wPost D [(h, .inr (4, [.int a0, .int a1, .int a2, .int a3, .int a4, .int a5, .ref ht, .ref hi])), (ht, .inl (cY 0, 5, .inl tr)), (hi, .inl (cY 1, 6, .inl inn))] A u t) : wPost D (mvC h ht hi cY (rowM a0 a1 a2 a3 a4 a5 tr inn)) A u t := by
  obtain ⟨hP, hD⟩ := hB
  have hP := hP.arr (g := fun k => rowM a0 a1 a2 a3 a4 a5 tr inn (6 + k)) 1 rfl (fun k hk => (rowM_t hk).symm)
  have hD := hD.arr (g := fun k => rowM a0 a1 a2 a3 a4 a5 tr inn (6 + k)) 1 rfl
  have hP := hP.arr (g := fun k => rowM a0 a1 a2 a3 a4 a5 tr inn (11 + k)) 2 rfl (fun k hk => rowM_i.symm)
  have hD := hD.arr (g := fun k => rowM a0 a1 a2 a3 a4 a5 tr inn (11 + k)) 2 rfl
  exact ⟨hP, hD⟩
theorem bkJoin {A0 : Nat → Prop} {D : va_G} {AD : Nat → Nat} {cY : Nat → ClassId} {MV : Nat → Nat → Int32} {X : va_W} {i : Nat} {row : Nat → Int32} {H H1 : Heap} {t : State} {u : Unit} (hi : i < 7) (hP : va_P D vwCl (X ++ bkM AD cY MV) H) (hD : va_D A0 (X ++ bkM AD cY MV)) (hk : ∀ q : Nat, q < H.size → ¬ va_A (mvC (AD (2 + i)) (AD (9 + i)) (AD (16 + i)) cY (MV i)) H.size q → H1[q]? = H[q]?) (hB : wPost D (mvC (AD (2 + i)) (AD (9 + i)) (AD (16 + i)) cY row) (va_A (mvC (AD (2 + i)) (AD (9 + i)) (AD (16 + i)) cY (MV i)) H.size) u t) (ht : t.heap = H1) : va_P D vwCl (X ++ bkM AD cY (mvS MV i row)) H1 ∧ va_D A0 (X ++ bkM AD cY (mvS MV i row)) := by
  refine wRepl hP hD (fun k => X.length + (7 * k + i)) (mvC_in hi) ?_ ?_ hk hB ht
  · intro k q hq
    by_cases c : k < X.length
    · right
      rw [List.getElem?_append_left c] at hq ⊢
      exact ⟨hq, fun j _ => by omega⟩
    · have hl : k - X.length < 21 := by
        have := (List.getElem?_eq_some_iff.mp hq).1
        rw [List.length_append, bk_len] at this
        omega
      rw [List.getElem?_append_right (by omega), bk_get _ _ _ _ hl] at hq
      by_cases c2 : (k - X.length) % 7 = i
      · left
        refine ⟨(k - X.length) / 7, ?_⟩
        rw [mvC_get AD cY row i _ (by omega), ← hq, c2]
        unfold mvS
        rw [if_pos rfl]
      · right
        rw [List.getElem?_append_right (by omega), bk_get _ _ _ _ hl]
        refine ⟨?_, fun j _ => by omega⟩
        rw [← hq]
        unfold mvS
        rw [if_neg c2]
  · intro k q hq
    by_cases c : k < X.length
    · rw [List.getElem?_append_left c] at hq ⊢
      exact ⟨q, hq, rfl⟩
    · have hl : k - X.length < 21 := by
        have := (List.getElem?_eq_some_iff.mp hq).1
        rw [List.length_append, bk_len] at this
        omega
      rw [List.getElem?_append_right (by omega), bk_get _ _ _ _ hl] at hq ⊢
      refine ⟨_, rfl, ?_⟩
      cases hq
      unfold bkE
      split
      · rfl
      · split
        · rfl
        · rfl
