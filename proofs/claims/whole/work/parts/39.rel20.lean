theorem ofMove_n {tb : Nat → Int32} {i k : Nat} (hi : i < 6) (hk : k < 12) : X8_ofMove_r tb (nI i) (nI k) = tb (12 * i + k) := by
  unfold X8_ofMove_r
  rw [show (12 : Int32) = nI 12 from rfl, pk_mul, nI_add, nI_clamp (by omega)]
/-- one of a move's fields or traits set on both sides -/
theorem relT_set {MV M1 : Nat → Nat → Int32} {tb : Nat → Int32} {cnt i k : Nat} {v : Int32} (hT : relT MV tb cnt) (hi : i < cnt) (hk : k < 11) (h1 : M1 i k = v) (h2 : ∀ a b, ¬ (a = i ∧ b = k) → M1 a b = MV a b) : relT M1 (upd tb (12 * i + k) v) cnt := by
  obtain ⟨h6, hA, hB⟩ := hT
  refine ⟨h6, ?_, ?_⟩
  · intro a ha b hb
    rw [ofMove_n (by omega) (by omega)]
    by_cases c : a = i ∧ b = k
    · obtain ⟨rfl, rfl⟩ := c
      rw [upd_s, h1]
    · rw [upd_n _ _ (by omega), h2 a b c, ← hA a ha b hb, ofMove_n (by omega) (by omega)]
  · intro a ha b hb
    rw [h2 a (11 + b) (by omega), ← hB a ha b hb, show (11 : Int32) = nI 11 from rfl, ofMove_n (by omega) (by omega), ofMove_n (by omega) (by omega), upd_n _ _ (by omega)]
