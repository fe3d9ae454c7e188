theorem inw_X8_search_X8 : ∀ w ∈ u_ws RX8 TX8 17, w ∈ wsX8_search := fun _ h => List.mem_cons_of_mem _ (List.mem_append_right _ h)
def X8_search_j97 (dp : Int32) (rw9 : Nat → Int32) : Int32 := (if (dp + (-1)) ≤ 0 then 0 else ((rw9 (dp + (-1)).toNatClampNeg) + 1))
def X8_search_L56_g9 (tb : Nat → Int32) (dp : Int32) (g9 : Nat → Int32) (kp9 : Nat → Int32) (most : Int32) (nx : Int32) (sA9 : Nat → Int32) : Nat → Int32 := (if dp = most then g9 else (if nx = (g9 1) then g9 else (if (X8_hit_run tb 0 nx ((X8_fetch_w2 sA9 kp9 dp) 17) 60 0 (g9, (X8_fetch_w2 sA9 kp9 dp), 0)).1 = 0 then (X8_hit_run tb 0 nx ((X8_fetch_w2 sA9 kp9 dp) 17) 60 0 (g9, (X8_fetch_w2 sA9 kp9 dp), 0)).2.1 else (X8_noteRow_w0 (X8_hit_run tb 0 nx ((X8_fetch_w2 sA9 kp9 dp) 17) 60 0 (g9, (X8_fetch_w2 sA9 kp9 dp), 0)).2.1 (X8_hit_run tb 0 nx ((X8_fetch_w2 sA9 kp9 dp) 17) 60 0 (g9, (X8_fetch_w2 sA9 kp9 dp), 0)).2.2 (dp + 1)))))
def X8_search_L56_sA9 (tb : Nat → Int32) (dp : Int32) (g9 : Nat → Int32) (kp9 : Nat → Int32) (most : Int32) (nx : Int32) (sA9 : Nat → Int32) : Nat → Int32 := (if dp = most then sA9 else (if nx = (g9 1) then sA9 else (X8_hit_run tb 0 nx ((X8_fetch_w2 sA9 kp9 dp) 17) 60 0 (g9, (X8_fetch_w2 sA9 kp9 dp), 0)).2.2))
def X8_search_L56_kp9 (tb : Nat → Int32) (dp : Int32) (g9 : Nat → Int32) (kp9 : Nat → Int32) (most : Int32) (nx : Int32) (sA9 : Nat → Int32) : Nat → Int32 := (if dp = most then kp9 else (if nx = (g9 1) then kp9 else (if (X8_hit_run tb 0 nx ((X8_fetch_w2 sA9 kp9 dp) 17) 60 0 (g9, (X8_fetch_w2 sA9 kp9 dp), 0)).1 = 0 then kp9 else (X8_keepState_w4 (X8_hit_run tb 0 nx ((X8_fetch_w2 sA9 kp9 dp) 17) 60 0 (g9, (X8_fetch_w2 sA9 kp9 dp), 0)).2.2 kp9 (dp + 1)))))
def X8_search_L56_rw9 (tb : Nat → Int32) (dp : Int32) (g9 : Nat → Int32) (kp9 : Nat → Int32) (most : Int32) (nx : Int32) (rw9 : Nat → Int32) (sA9 : Nat → Int32) : Nat → Int32 := (if dp = most then rw9 else (if nx = (g9 1) then rw9 else (if (X8_hit_run tb 0 nx ((X8_fetch_w2 sA9 kp9 dp) 17) 60 0 (g9, (X8_fetch_w2 sA9 kp9 dp), 0)).1 = 0 then rw9 else (upd rw9 dp.toNatClampNeg nx))))
def X8_search_L56_br9 (tb : Nat → Int32) (br9 : Nat → Int32) (dp : Int32) (g9 : Nat → Int32) (kp9 : Nat → Int32) (most : Int32) (nx : Int32) (rw9 : Nat → Int32) (sA9 : Nat → Int32) : Nat → Int32 := (if dp = most then br9 else (if nx = (g9 1) then br9 else (if (X8_hit_run tb 0 nx ((X8_fetch_w2 sA9 kp9 dp) 17) 60 0 (g9, (X8_fetch_w2 sA9 kp9 dp), 0)).1 = 0 then br9 else (X8_noteRow_w8 (X8_hit_run tb 0 nx ((X8_fetch_w2 sA9 kp9 dp) 17) 60 0 (g9, (X8_fetch_w2 sA9 kp9 dp), 0)).2.1 (X8_hit_run tb 0 nx ((X8_fetch_w2 sA9 kp9 dp) 17) 60 0 (g9, (X8_fetch_w2 sA9 kp9 dp), 0)).2.2 (upd rw9 dp.toNatClampNeg nx) br9 (dp + 1)))))
def X8_search_L56_dp (tb : Nat → Int32) (dp : Int32) (g9 : Nat → Int32) (kp9 : Nat → Int32) (most : Int32) (nx : Int32) (sA9 : Nat → Int32) : Int32 := (if dp = most then (dp + (-1)) else (if nx = (g9 1) then (dp + (-1)) else (if (X8_hit_run tb 0 nx ((X8_fetch_w2 sA9 kp9 dp) 17) 60 0 (g9, (X8_fetch_w2 sA9 kp9 dp), 0)).1 = 0 then dp else (dp + 1))))
def X8_search_L56_nx (tb : Nat → Int32) (dp : Int32) (g9 : Nat → Int32) (kp9 : Nat → Int32) (most : Int32) (nx : Int32) (rw9 : Nat → Int32) (sA9 : Nat → Int32) : Int32 := (if dp = most then (X8_search_j97 dp rw9) else (if nx = (g9 1) then (X8_search_j97 dp rw9) else (if (X8_hit_run tb 0 nx ((X8_fetch_w2 sA9 kp9 dp) 17) 60 0 (g9, (X8_fetch_w2 sA9 kp9 dp), 0)).1 = 0 then (nx + 1) else 0)))
def X8_sea_run (tb : Nat → Int32) (most : Int32) : Nat → Nat → (Nat → Int32) × (Nat → Int32) × (Nat → Int32) × (Nat → Int32) × (Nat → Int32) × Int32 × Int32 → (Nat → Int32) × (Nat → Int32) × (Nat → Int32) × (Nat → Int32) × (Nat → Int32) × Int32 × Int32
  | 0, _, (g9, sA9, kp9, rw9, br9, dp, nx) => (g9, sA9, kp9, rw9, br9, dp, nx)
  | n + 1, j, (g9, sA9, kp9, rw9, br9, dp, nx) => if dp ≤ 0 then (g9, sA9, kp9, rw9, br9, dp, nx) else X8_sea_run tb most n (j + 1) ((X8_search_L56_g9 tb dp g9 kp9 most nx sA9), (X8_search_L56_sA9 tb dp g9 kp9 most nx sA9), (X8_search_L56_kp9 tb dp g9 kp9 most nx sA9), (X8_search_L56_rw9 tb dp g9 kp9 most nx rw9 sA9), (X8_search_L56_br9 tb br9 dp g9 kp9 most nx rw9 sA9), (X8_search_L56_dp tb dp g9 kp9 most nx sA9), (X8_search_L56_nx tb dp g9 kp9 most nx rw9 sA9))
theorem X8_sea_run_s (tb : Nat → Int32) (most : Int32) (n j : Nat) (g9 : Nat → Int32) (sA9 : Nat → Int32) (kp9 : Nat → Int32) (rw9 : Nat → Int32) (br9 : Nat → Int32) (dp : Int32) (nx : Int32) : X8_sea_run tb most (n + 1) j (g9, sA9, kp9, rw9, br9, dp, nx) = if dp ≤ 0 then (g9, sA9, kp9, rw9, br9, dp, nx) else X8_sea_run tb most n (j + 1) ((X8_search_L56_g9 tb dp g9 kp9 most nx sA9), (X8_search_L56_sA9 tb dp g9 kp9 most nx sA9), (X8_search_L56_kp9 tb dp g9 kp9 most nx sA9), (X8_search_L56_rw9 tb dp g9 kp9 most nx rw9 sA9), (X8_search_L56_br9 tb br9 dp g9 kp9 most nx rw9 sA9), (X8_search_L56_dp tb dp g9 kp9 most nx sA9), (X8_search_L56_nx tb dp g9 kp9 most nx rw9 sA9)) := rfl
def X8_search_w0 (g : Nat → Int32) (tb : Nat → Int32) (sA : Nat → Int32) (kp : Nat → Int32) (rw : Nat → Int32) (br : Nat → Int32) (meter : Int32) (most : Int32) (move : Int32) : Nat → Int32 := (if (X8_hit_run tb 1 move ((X8_lay_w2 sA meter 310 100 290) 17) 60 0 ((upd (upd g 15 0) 16 0), (X8_lay_w2 sA meter 310 100 290), 0)).1 = 0 then (X8_hit_run tb 1 move ((X8_lay_w2 sA meter 310 100 290) 17) 60 0 ((upd (upd g 15 0) 16 0), (X8_lay_w2 sA meter 310 100 290), 0)).2.1 else (X8_sea_run tb most 65536 0 ((X8_noteRow_w0 (X8_hit_run tb 1 move ((X8_lay_w2 sA meter 310 100 290) 17) 60 0 ((upd (upd g 15 0) 16 0), (X8_lay_w2 sA meter 310 100 290), 0)).2.1 (X8_hit_run tb 1 move ((X8_lay_w2 sA meter 310 100 290) 17) 60 0 ((upd (upd g 15 0) 16 0), (X8_lay_w2 sA meter 310 100 290), 0)).2.2 1), (X8_hit_run tb 1 move ((X8_lay_w2 sA meter 310 100 290) 17) 60 0 ((upd (upd g 15 0) 16 0), (X8_lay_w2 sA meter 310 100 290), 0)).2.2, (X8_keepState_w4 (X8_hit_run tb 1 move ((X8_lay_w2 sA meter 310 100 290) 17) 60 0 ((upd (upd g 15 0) 16 0), (X8_lay_w2 sA meter 310 100 290), 0)).2.2 kp 1), (upd rw 0 move), (X8_noteRow_w8 (X8_hit_run tb 1 move ((X8_lay_w2 sA meter 310 100 290) 17) 60 0 ((upd (upd g 15 0) 16 0), (X8_lay_w2 sA meter 310 100 290), 0)).2.1 (X8_hit_run tb 1 move ((X8_lay_w2 sA meter 310 100 290) 17) 60 0 ((upd (upd g 15 0) 16 0), (X8_lay_w2 sA meter 310 100 290), 0)).2.2 (upd rw 0 move) br 1), 1, 0)).1)
def X8_search_w2 (g : Nat → Int32) (tb : Nat → Int32) (sA : Nat → Int32) (kp : Nat → Int32) (rw : Nat → Int32) (br : Nat → Int32) (meter : Int32) (most : Int32) (move : Int32) : Nat → Int32 := (if (X8_hit_run tb 1 move ((X8_lay_w2 sA meter 310 100 290) 17) 60 0 ((upd (upd g 15 0) 16 0), (X8_lay_w2 sA meter 310 100 290), 0)).1 = 0 then (X8_hit_run tb 1 move ((X8_lay_w2 sA meter 310 100 290) 17) 60 0 ((upd (upd g 15 0) 16 0), (X8_lay_w2 sA meter 310 100 290), 0)).2.2 else (X8_sea_run tb most 65536 0 ((X8_noteRow_w0 (X8_hit_run tb 1 move ((X8_lay_w2 sA meter 310 100 290) 17) 60 0 ((upd (upd g 15 0) 16 0), (X8_lay_w2 sA meter 310 100 290), 0)).2.1 (X8_hit_run tb 1 move ((X8_lay_w2 sA meter 310 100 290) 17) 60 0 ((upd (upd g 15 0) 16 0), (X8_lay_w2 sA meter 310 100 290), 0)).2.2 1), (X8_hit_run tb 1 move ((X8_lay_w2 sA meter 310 100 290) 17) 60 0 ((upd (upd g 15 0) 16 0), (X8_lay_w2 sA meter 310 100 290), 0)).2.2, (X8_keepState_w4 (X8_hit_run tb 1 move ((X8_lay_w2 sA meter 310 100 290) 17) 60 0 ((upd (upd g 15 0) 16 0), (X8_lay_w2 sA meter 310 100 290), 0)).2.2 kp 1), (upd rw 0 move), (X8_noteRow_w8 (X8_hit_run tb 1 move ((X8_lay_w2 sA meter 310 100 290) 17) 60 0 ((upd (upd g 15 0) 16 0), (X8_lay_w2 sA meter 310 100 290), 0)).2.1 (X8_hit_run tb 1 move ((X8_lay_w2 sA meter 310 100 290) 17) 60 0 ((upd (upd g 15 0) 16 0), (X8_lay_w2 sA meter 310 100 290), 0)).2.2 (upd rw 0 move) br 1), 1, 0)).2.1)
def X8_search_w4 (g : Nat → Int32) (tb : Nat → Int32) (sA : Nat → Int32) (kp : Nat → Int32) (rw : Nat → Int32) (br : Nat → Int32) (meter : Int32) (most : Int32) (move : Int32) : Nat → Int32 := (if (X8_hit_run tb 1 move ((X8_lay_w2 sA meter 310 100 290) 17) 60 0 ((upd (upd g 15 0) 16 0), (X8_lay_w2 sA meter 310 100 290), 0)).1 = 0 then kp else (X8_sea_run tb most 65536 0 ((X8_noteRow_w0 (X8_hit_run tb 1 move ((X8_lay_w2 sA meter 310 100 290) 17) 60 0 ((upd (upd g 15 0) 16 0), (X8_lay_w2 sA meter 310 100 290), 0)).2.1 (X8_hit_run tb 1 move ((X8_lay_w2 sA meter 310 100 290) 17) 60 0 ((upd (upd g 15 0) 16 0), (X8_lay_w2 sA meter 310 100 290), 0)).2.2 1), (X8_hit_run tb 1 move ((X8_lay_w2 sA meter 310 100 290) 17) 60 0 ((upd (upd g 15 0) 16 0), (X8_lay_w2 sA meter 310 100 290), 0)).2.2, (X8_keepState_w4 (X8_hit_run tb 1 move ((X8_lay_w2 sA meter 310 100 290) 17) 60 0 ((upd (upd g 15 0) 16 0), (X8_lay_w2 sA meter 310 100 290), 0)).2.2 kp 1), (upd rw 0 move), (X8_noteRow_w8 (X8_hit_run tb 1 move ((X8_lay_w2 sA meter 310 100 290) 17) 60 0 ((upd (upd g 15 0) 16 0), (X8_lay_w2 sA meter 310 100 290), 0)).2.1 (X8_hit_run tb 1 move ((X8_lay_w2 sA meter 310 100 290) 17) 60 0 ((upd (upd g 15 0) 16 0), (X8_lay_w2 sA meter 310 100 290), 0)).2.2 (upd rw 0 move) br 1), 1, 0)).2.2.1)
def X8_search_w7 (g : Nat → Int32) (tb : Nat → Int32) (sA : Nat → Int32) (kp : Nat → Int32) (rw : Nat → Int32) (br : Nat → Int32) (meter : Int32) (most : Int32) (move : Int32) : Nat → Int32 := (if (X8_hit_run tb 1 move ((X8_lay_w2 sA meter 310 100 290) 17) 60 0 ((upd (upd g 15 0) 16 0), (X8_lay_w2 sA meter 310 100 290), 0)).1 = 0 then rw else (X8_sea_run tb most 65536 0 ((X8_noteRow_w0 (X8_hit_run tb 1 move ((X8_lay_w2 sA meter 310 100 290) 17) 60 0 ((upd (upd g 15 0) 16 0), (X8_lay_w2 sA meter 310 100 290), 0)).2.1 (X8_hit_run tb 1 move ((X8_lay_w2 sA meter 310 100 290) 17) 60 0 ((upd (upd g 15 0) 16 0), (X8_lay_w2 sA meter 310 100 290), 0)).2.2 1), (X8_hit_run tb 1 move ((X8_lay_w2 sA meter 310 100 290) 17) 60 0 ((upd (upd g 15 0) 16 0), (X8_lay_w2 sA meter 310 100 290), 0)).2.2, (X8_keepState_w4 (X8_hit_run tb 1 move ((X8_lay_w2 sA meter 310 100 290) 17) 60 0 ((upd (upd g 15 0) 16 0), (X8_lay_w2 sA meter 310 100 290), 0)).2.2 kp 1), (upd rw 0 move), (X8_noteRow_w8 (X8_hit_run tb 1 move ((X8_lay_w2 sA meter 310 100 290) 17) 60 0 ((upd (upd g 15 0) 16 0), (X8_lay_w2 sA meter 310 100 290), 0)).2.1 (X8_hit_run tb 1 move ((X8_lay_w2 sA meter 310 100 290) 17) 60 0 ((upd (upd g 15 0) 16 0), (X8_lay_w2 sA meter 310 100 290), 0)).2.2 (upd rw 0 move) br 1), 1, 0)).2.2.2.1)
def X8_search_w8 (g : Nat → Int32) (tb : Nat → Int32) (sA : Nat → Int32) (kp : Nat → Int32) (rw : Nat → Int32) (br : Nat → Int32) (meter : Int32) (most : Int32) (move : Int32) : Nat → Int32 := (if (X8_hit_run tb 1 move ((X8_lay_w2 sA meter 310 100 290) 17) 60 0 ((upd (upd g 15 0) 16 0), (X8_lay_w2 sA meter 310 100 290), 0)).1 = 0 then br else (X8_sea_run tb most 65536 0 ((X8_noteRow_w0 (X8_hit_run tb 1 move ((X8_lay_w2 sA meter 310 100 290) 17) 60 0 ((upd (upd g 15 0) 16 0), (X8_lay_w2 sA meter 310 100 290), 0)).2.1 (X8_hit_run tb 1 move ((X8_lay_w2 sA meter 310 100 290) 17) 60 0 ((upd (upd g 15 0) 16 0), (X8_lay_w2 sA meter 310 100 290), 0)).2.2 1), (X8_hit_run tb 1 move ((X8_lay_w2 sA meter 310 100 290) 17) 60 0 ((upd (upd g 15 0) 16 0), (X8_lay_w2 sA meter 310 100 290), 0)).2.2, (X8_keepState_w4 (X8_hit_run tb 1 move ((X8_lay_w2 sA meter 310 100 290) 17) 60 0 ((upd (upd g 15 0) 16 0), (X8_lay_w2 sA meter 310 100 290), 0)).2.2 kp 1), (upd rw 0 move), (X8_noteRow_w8 (X8_hit_run tb 1 move ((X8_lay_w2 sA meter 310 100 290) 17) 60 0 ((upd (upd g 15 0) 16 0), (X8_lay_w2 sA meter 310 100 290), 0)).2.1 (X8_hit_run tb 1 move ((X8_lay_w2 sA meter 310 100 290) 17) 60 0 ((upd (upd g 15 0) 16 0), (X8_lay_w2 sA meter 310 100 290), 0)).2.2 (upd rw 0 move) br 1), 1, 0)).2.2.2.2.1)
set_option maxRecDepth 100000 in
theorem sea_up {cnt m j d n : Nat} {g9 kp9 rw9 : Nat → Int32} (h6 : cnt ≤ 6) (hm4 : m ≤ 4) (h : seaI cnt m j g9 kp9 rw9 (nI d) (nI n)) (h1 : 1 ≤ d) (hd : d ≤ m) (hn : n ≤ cnt) : seaI cnt m (j + 1) g9 kp9 rw9 (nI d + (-1)) (X8_search_j97 (nI d) rw9) := by
  obtain ⟨d', n', e1, e2, hd', hn', hg, hrw, hkp, hv, hb⟩ := h
  have ed : d' = d := by
    have := congrArg Int32.toNatClampNeg e1
    rw [nI_clamp (by omega), nI_clamp (by omega)] at this
    exact this.symm
  have en : n' = n := by
    have := congrArg Int32.toNatClampNeg e2
    rw [nI_clamp (by omega), nI_clamp (by omega)] at this
    exact this.symm
  subst ed en
  unfold X8_search_j97
  rw [dec_nI h1]
  by_cases c : d' = 1
  · subst c
    rw [if_pos (show nI (1 - 1) ≤ 0 from Int32.le_refl _)]
    refine ⟨0, 0, rfl, rfl, Nat.zero_le _, Nat.zero_le _, hg, fun k _ _ => by omega, fun k _ _ => by omega, ?_, hb⟩
    have e : seaV 1 n' rw9 = (7 - n') * 4096 := rfl
    have e0 : seaV 0 0 rw9 = 0 := rfl
    rw [e] at hv
    rw [e0]
    omega
  · have c2 : ¬ nI (d' - 1) ≤ 0 := by
      intro q
      have := (nI_leI (a := d' - 1) (b := 0) (by omega) (by decide)).mp q
      omega
    rw [if_neg c2, nI_clamp (by omega)]
    obtain ⟨r, hr, er⟩ := hrw (d' - 1) (by omega) (by omega)
    refine ⟨d' - 1, r + 1, rfl, ?_, by omega, by omega, hg, fun k hk1 hk2 => hrw k hk1 (by omega), fun k hk1 hk2 => hkp k hk1 (by omega), ?_, hb⟩
    · rw [er, show (1 : Int32) = nI 1 from rfl, nI_add]
    · have er2 : (rw9 (d' - 1)).toNatClampNeg = r := by rw [er, nI_clamp (by omega)]
      have hdd : d' = 2 ∨ d' = 3 ∨ d' = 4 := by omega
      rcases hdd with q | q | q
      · subst q
        have e1 : seaV 2 n' rw9 = (6 - (rw9 1).toNatClampNeg) * 4096 + (7 - n') * 256 := rfl
        have e2 : seaV (2 - 1) (r + 1) rw9 = (7 - (r + 1)) * 4096 := rfl
        have er3 : (rw9 1).toNatClampNeg = r := er2
        rw [e1, er3] at hv
        rw [e2]
        omega
      · subst q
        have e1 : seaV 3 n' rw9 = (6 - (rw9 1).toNatClampNeg) * 4096 + (6 - (rw9 2).toNatClampNeg) * 256 + (7 - n') * 16 := rfl
        have e2 : seaV (3 - 1) (r + 1) rw9 = (6 - (rw9 1).toNatClampNeg) * 4096 + (7 - (r + 1)) * 256 := rfl
        have er3 : (rw9 2).toNatClampNeg = r := er2
        rw [e1, er3] at hv
        rw [e2]
        omega
      · subst q
        have e1 : seaV 4 n' rw9 = (6 - (rw9 1).toNatClampNeg) * 4096 + (6 - (rw9 2).toNatClampNeg) * 256 + (6 - (rw9 3).toNatClampNeg) * 16 + (7 - n') := rfl
        have e2 : seaV (4 - 1) (r + 1) rw9 = (6 - (rw9 1).toNatClampNeg) * 4096 + (6 - (rw9 2).toNatClampNeg) * 256 + (7 - (r + 1)) * 16 := rfl
        have er3 : (rw9 3).toNatClampNeg = r := er2
        rw [e1, er3] at hv
        rw [e2]
        omega
set_option maxRecDepth 100000 in
theorem sea_next {cnt m j d n : Nat} {g9 g1 kp9 rw9 : Nat → Int32} (h6 : cnt ≤ 6) (hm4 : m ≤ 4) (h : seaI cnt m j g9 kp9 rw9 (nI d) (nI n)) (h1 : 1 ≤ d) (hd : d ≤ m) (hn : n < cnt) (hg1 : g1 1 = g9 1) (hg15 : g1 15 = g9 15) : seaI cnt m (j + 1) g1 kp9 rw9 (nI d) (nI n + 1) := by
  obtain ⟨d', n', e1, e2, hd', hn', hg, hrw, hkp, hv, hb⟩ := h
  have ed : d' = d := by
    have := congrArg Int32.toNatClampNeg e1
    rw [nI_clamp (by omega), nI_clamp (by omega)] at this
    exact this.symm
  have en : n' = n := by
    have := congrArg Int32.toNatClampNeg e2
    rw [nI_clamp (by omega), nI_clamp (by omega)] at this
    exact this.symm
  subst ed en
  refine ⟨d', n' + 1, rfl, ?_, hd, hn, by rw [hg1, hg], hrw, hkp, ?_, by rw [hg15]; exact hb⟩
  · rw [show (1 : Int32) = nI 1 from rfl, nI_add]
  · have hdd : d' = 1 ∨ d' = 2 ∨ d' = 3 ∨ d' = 4 := by omega
    rcases hdd with q | q | q | q
    · subst q
      have e1 : seaV 1 n' rw9 = (7 - n') * 4096 := rfl
      have e2 : seaV 1 (n' + 1) rw9 = (7 - (n' + 1)) * 4096 := rfl
      rw [e1] at hv
      rw [e2]
      omega
    · subst q
      have e1 : seaV 2 n' rw9 = (6 - (rw9 1).toNatClampNeg) * 4096 + (7 - n') * 256 := rfl
      have e2 : seaV 2 (n' + 1) rw9 = (6 - (rw9 1).toNatClampNeg) * 4096 + (7 - (n' + 1)) * 256 := rfl
      rw [e1] at hv
      rw [e2]
      omega
    · subst q
      have e1 : seaV 3 n' rw9 = (6 - (rw9 1).toNatClampNeg) * 4096 + (6 - (rw9 2).toNatClampNeg) * 256 + (7 - n') * 16 := rfl
      have e2 : seaV 3 (n' + 1) rw9 = (6 - (rw9 1).toNatClampNeg) * 4096 + (6 - (rw9 2).toNatClampNeg) * 256 + (7 - (n' + 1)) * 16 := rfl
      rw [e1] at hv
      rw [e2]
      omega
    · subst q
      have e1 : seaV 4 n' rw9 = (6 - (rw9 1).toNatClampNeg) * 4096 + (6 - (rw9 2).toNatClampNeg) * 256 + (6 - (rw9 3).toNatClampNeg) * 16 + (7 - n') := rfl
      have e2 : seaV 4 (n' + 1) rw9 = (6 - (rw9 1).toNatClampNeg) * 4096 + (6 - (rw9 2).toNatClampNeg) * 256 + (6 - (rw9 3).toNatClampNeg) * 16 + (7 - (n' + 1)) := rfl
      rw [e1] at hv
      rw [e2]
      omega
set_option maxRecDepth 100000 in
theorem sea_down {cnt m j d n : Nat} {g9 g1 kp9 rw9 s : Nat → Int32} (h6 : cnt ≤ 6) (hm4 : m ≤ 4) (h : seaI cnt m j g9 kp9 rw9 (nI d) (nI n)) (h1 : 1 ≤ d) (hd : d < m) (hn : n < cnt) (hg1 : g1 1 = g9 1) (hg15 : (∃ b, b ≤ 4 ∧ g9 15 = nI b) → ∃ b, b ≤ 4 ∧ g1 15 = nI b) (hs : okS s) : seaI cnt m (j + 1) g1 (X8_keepState_w4 s kp9 (nI d + 1)) (upd rw9 (nI d).toNatClampNeg (nI n)) (nI d + 1) 0 := by
  obtain ⟨d', n', e1, e2, hd', hn', hg, hrw, hkp, hv, hb⟩ := h
  have ed : d' = d := by
    have := congrArg Int32.toNatClampNeg e1
    rw [nI_clamp (by omega), nI_clamp (by omega)] at this
    exact this.symm
  have en : n' = n := by
    have := congrArg Int32.toNatClampNeg e2
    rw [nI_clamp (by omega), nI_clamp (by omega)] at this
    exact this.symm
  subst ed en
  rw [show nI d' + 1 = nI (d' + 1) from nI_add d' 1, nI_clamp (by omega)]
  refine ⟨d' + 1, 0, rfl, rfl, by omega, Nat.zero_le _, by rw [hg1, hg], ?_, ?_, ?_, hg15 hb⟩
  · intro k hk1 hk2
    by_cases c : k = d'
    · subst c
      exact ⟨n', hn, upd_s _ _ _⟩
    · obtain ⟨r, hr, er⟩ := hrw k hk1 (by omega)
      exact ⟨r, hr, by rw [upd_n _ _ c]; exact er⟩
  · intro k hk1 hk2
    have h5 : d' + 1 < 5 := by omega
    by_cases c : k = d' + 1
    · subst c
      exact okS_congr hs (keep_same h5 (by decide)) (keep_same h5 (by decide)) (keep_same h5 (by decide)) (keep_same h5 (by decide)) (keep_same h5 (by decide)) (keep_same h5 (by decide))
    · exact okS_congr (hkp k hk1 (by omega)) (keep_other h5 (by decide) c) (keep_other h5 (by decide) c) (keep_other h5 (by decide) c) (keep_other h5 (by decide) c) (keep_other h5 (by decide) c) (keep_other h5 (by decide) c)
  · have en2 : (nI n').toNatClampNeg = n' := nI_clamp (by omega)
    have hdd : d' = 1 ∨ d' = 2 ∨ d' = 3 := by omega
    rcases hdd with q | q | q
    · subst q
      have e1 : seaV 1 n' rw9 = (7 - n') * 4096 := rfl
      have e2 : seaV (1 + 1) 0 (upd rw9 1 (nI n')) = (6 - (upd rw9 1 (nI n') 1).toNatClampNeg) * 4096 + (7 - 0) * 256 := rfl
      rw [e1] at hv
      rw [e2, upd_s, en2]
      omega
    · subst q
      have e1 : seaV 2 n' rw9 = (6 - (rw9 1).toNatClampNeg) * 4096 + (7 - n') * 256 := rfl
      have e2 : seaV (2 + 1) 0 (upd rw9 2 (nI n')) = (6 - (upd rw9 2 (nI n') 1).toNatClampNeg) * 4096 + (6 - (upd rw9 2 (nI n') 2).toNatClampNeg) * 256 + (7 - 0) * 16 := rfl
      rw [e1] at hv
      rw [e2, upd_s, en2, upd_n _ _ (by decide)]
      omega
    · subst q
      have e1 : seaV 3 n' rw9 = (6 - (rw9 1).toNatClampNeg) * 4096 + (6 - (rw9 2).toNatClampNeg) * 256 + (7 - n') * 16 := rfl
      have e2 : seaV (3 + 1) 0 (upd rw9 3 (nI n')) = (6 - (upd rw9 3 (nI n') 1).toNatClampNeg) * 4096 + (6 - (upd rw9 3 (nI n') 2).toNatClampNeg) * 256 + (6 - (upd rw9 3 (nI n') 3).toNatClampNeg) * 16 + (7 - 0) := rfl
      rw [e1] at hv
      rw [e2, upd_s, en2, upd_n _ _ (by decide), upd_n _ _ (by decide)]
      omega
theorem sea_step {cnt m j : Nat} {tb g9 sA9 kp9 rw9 : Nat → Int32} {dp nx most : Int32} (h6 : cnt ≤ 6) (hm : most = nI m ∧ 1 ≤ m ∧ m ≤ 4) (h : seaI cnt m j g9 kp9 rw9 dp nx) (c : ¬ dp ≤ 0) : seaI cnt m (j + 1) (X8_search_L56_g9 tb dp g9 kp9 most nx sA9) (X8_search_L56_kp9 tb dp g9 kp9 most nx sA9) (X8_search_L56_rw9 tb dp g9 kp9 most nx rw9 sA9) (X8_search_L56_dp tb dp g9 kp9 most nx sA9) (X8_search_L56_nx tb dp g9 kp9 most nx rw9 sA9) := by
  have hf := sea_fetch (sA9 := sA9) hm.2.2 h c
  obtain ⟨d, n, e1, e2, hd, hn, hg, -, -, -⟩ := id h
  subst e1 e2
  have h1 := sea_pos c
  unfold X8_search_L56_g9 X8_search_L56_kp9 X8_search_L56_rw9 X8_search_L56_dp X8_search_L56_nx
  by_cases c1 : nI d = most
  · simp only [if_pos c1]
    exact sea_up h6 hm.2.2 h h1 hd hn
  · simp only [if_neg c1]
    by_cases c2 : nI n = g9 1
    · simp only [if_pos c2]
      exact sea_up h6 hm.2.2 h h1 hd hn
    · simp only [if_neg c2]
      have hmv := sea_mv h6 h c2
      have hlt : n < cnt := by
        rcases Nat.lt_or_ge n cnt with q | q
        · exact q
        · exact absurd (by rw [hg, Nat.le_antisymm hn q]) c2
      have hdm : d < m := by
        rcases Nat.lt_or_ge d m with q | q
        · exact q
        · exact absurd (by rw [hm.1, Nat.le_antisymm hd q]) c1
      have o1 := okS_hit (tb := tb) (isF := 0) (c := X8_fetch_w2 sA9 kp9 (nI d) 17) hmv 60 0 g9 (X8_fetch_w2 sA9 kp9 (nI d)) 0 hf
      have o15 := hit_g (tb := tb) (isF := 0) (c := X8_fetch_w2 sA9 kp9 (nI d) 17) (move := nI n) (k := 15) (by decide) 60 0 g9 (X8_fetch_w2 sA9 kp9 (nI d)) 0
      have o2 := hit_g (tb := tb) (isF := 0) (c := X8_fetch_w2 sA9 kp9 (nI d) 17) (move := nI n) (k := 1) (by decide) 60 0 g9 (X8_fetch_w2 sA9 kp9 (nI d)) 0
      generalize X8_hit_run tb 0 (nI n) (X8_fetch_w2 sA9 kp9 (nI d) 17) 60 0 (g9, X8_fetch_w2 sA9 kp9 (nI d), 0) = H at o1 o2 o15 ⊢
      by_cases c3 : H.1 = 0
      · simp only [if_pos c3]
        exact sea_next h6 hm.2.2 h h1 hd hlt o2 o15
      · simp only [if_neg c3]
        exact sea_down h6 hm.2.2 h h1 hdm hlt (by rw [note_g (by decide) (by decide)]; exact o2) (fun hb => by rw [show nI d + 1 = nI (d + 1) from nI_add d 1]; exact note_15 (by omega) (by rw [o15]; exact hb)) o1
theorem sea_fin {cnt m : Nat} {tb : Nat → Int32} {most : Int32} (h6 : cnt ≤ 6) (hm : most = nI m ∧ 1 ≤ m ∧ m ≤ 4) (n : Nat) : ∀ (j : Nat) (g9 sA9 kp9 rw9 br9 : Nat → Int32) (dp nx : Int32), seaI cnt m j g9 kp9 rw9 dp nx → ∃ j', seaI cnt m j' (X8_sea_run tb most n j (g9, sA9, kp9, rw9, br9, dp, nx)).1 (X8_sea_run tb most n j (g9, sA9, kp9, rw9, br9, dp, nx)).2.2.1 (X8_sea_run tb most n j (g9, sA9, kp9, rw9, br9, dp, nx)).2.2.2.1 (X8_sea_run tb most n j (g9, sA9, kp9, rw9, br9, dp, nx)).2.2.2.2.2.1 (X8_sea_run tb most n j (g9, sA9, kp9, rw9, br9, dp, nx)).2.2.2.2.2.2 := by
  induction n with
  | zero =>
    intro j g9 sA9 kp9 rw9 br9 dp nx h
    rw [X8_sea_run]
    exact ⟨j, h⟩
  | succ n ih =>
    intro j g9 sA9 kp9 rw9 br9 dp nx h
    rw [X8_sea_run_s]
    by_cases c : dp ≤ 0
    · rw [if_pos c]
      exact ⟨j, h⟩
    · rw [if_neg c]
      exact ih (j + 1) _ _ _ _ _ _ _ (sea_step h6 hm h c)
set_option maxHeartbeats 4000000 in
set_option maxRecDepth 100000 in
theorem c_X8_search (l : Launch) (dC : Nat → ClassId) (dI : Nat → Nat → Nat) (cY : Nat → ClassId) (m0 : Nat) (AM : Nat → Nat) (g : Nat → Int32) (tb : Nat → Int32) (sA : Nat → Int32) (rd : Nat → Int32) (kp : Nat → Int32) (td : Nat → Int32) (wn : Nat → Int32) (rw : Nat → Int32) (br : Nat → Int32) (move : Int32) (most : Int32) (meter : Int32) (cnt : Nat) (mm : Nat) (hm : okM move) (hcn : g 1 = nI cnt ∧ cnt ≤ 6) (hmm : most = nI mm ∧ 1 ≤ mm ∧ mm ≤ 4) (sz : Nat) : Met l yX8_search wsX8_search ({ frames := 5, cells := 0, slots := 0, locals := 133 } : Room) (va_Pc [.ref m0, .int move, .int most, .int meter] (wPre (dC, dI) (tyL cY) [(m0, .inr (8, mdL AM g)), (AM 0, .inl (cY 0, 72, .inl tb)), (AM 2, .inl (cY 0, 22, .inl sA)), (AM 3, .inl (cY 0, 22, .inl rd)), (AM 4, .inl (cY 0, 110, .inl kp)), (AM 5, .inl (cY 0, 8414, .inl td)), (AM 6, .inl (cY 0, 2, .inl wn)), (AM 13, .inl (cY 0, 4, .inl rw)), (AM 14, .inl (cY 0, 4, .inl br))] sz)) (va_Qv (fun _ : Unit => True) (wPost (dC, dI) [(m0, .inr (8, mdL AM (X8_search_w0 g tb sA kp rw br meter most move))), (AM 0, .inl (cY 0, 72, .inl tb)), (AM 2, .inl (cY 0, 22, .inl (X8_search_w2 g tb sA kp rw br meter most move))), (AM 3, .inl (cY 0, 22, .inl rd)), (AM 4, .inl (cY 0, 110, .inl (X8_search_w4 g tb sA kp rw br meter most move))), (AM 5, .inl (cY 0, 8414, .inl td)), (AM 6, .inl (cY 0, 2, .inl wn)), (AM 13, .inl (cY 0, 4, .inl (X8_search_w7 g tb sA kp rw br meter most move))), (AM 14, .inl (cY 0, 4, .inl (X8_search_w8 g tb sA kp rw br meter most move)))] (va_A [(m0, .inr (8, mdL AM g)), (AM 0, .inl (cY 0, 72, .inl tb)), (AM 2, .inl (cY 0, 22, .inl sA)), (AM 3, .inl (cY 0, 22, .inl rd)), (AM 4, .inl (cY 0, 110, .inl kp)), (AM 5, .inl (cY 0, 8414, .inl td)), (AM 6, .inl (cY 0, 2, .inl wn)), (AM 13, .inl (cY 0, 4, .inl rw)), (AM 14, .inl (cY 0, 4, .inl br))] sz)) (va_A [(m0, .inr (8, mdL AM g)), (AM 0, .inl (cY 0, 72, .inl tb)), (AM 2, .inl (cY 0, 22, .inl sA)), (AM 3, .inl (cY 0, 22, .inl rd)), (AM 4, .inl (cY 0, 110, .inl kp)), (AM 5, .inl (cY 0, 8414, .inl td)), (AM 6, .inl (cY 0, 2, .inl wn)), (AM 13, .inl (cY 0, 4, .inl rw)), (AM 14, .inl (cY 0, 4, .inl br))] sz)) 0 0 (va_A [(m0, .inr (8, mdL AM g)), (AM 0, .inl (cY 0, 72, .inl tb)), (AM 2, .inl (cY 0, 22, .inl sA)), (AM 3, .inl (cY 0, 22, .inl rd)), (AM 4, .inl (cY 0, 110, .inl kp)), (AM 5, .inl (cY 0, 8414, .inl td)), (AM 6, .inl (cY 0, 2, .inl wn)), (AM 13, .inl (cY 0, 4, .inl rw)), (AM 14, .inl (cY 0, 4, .inl br))] sz) := by
  refine Met.ofW (cc := cX8_search) (maxL := 6) (ret := none) (by decide) rfl ?_
  intro p e s m args below meth c s₁ B hml hv
  obtain ⟨rfl, hsz, hP, hK, hN, hD0⟩ := hv
  have hx := B.exec
  have hb := B.bytes
  have hr := B.returns
  have hts := atoms_spec (ws := wsX8_search) B.pre
  have hown : s.vm.findClass RX8 = some m.cls := findClass_of_methodNamed B.named
  have hlocks := B.notSynchronized
  subst hsz
  have hD := hD0.self (sz := s.heap.size)
  generalize hAe : va_A [(m0, .inr (8, mdL AM g)), (AM 0, .inl (cY 0, 72, .inl tb)), (AM 2, .inl (cY 0, 22, .inl sA)), (AM 3, .inl (cY 0, 22, .inl rd)), (AM 4, .inl (cY 0, 110, .inl kp)), (AM 5, .inl (cY 0, 8414, .inl td)), (AM 6, .inl (cY 0, 2, .inl wn)), (AM 13, .inl (cY 0, 4, .inl rw)), (AM 14, .inl (cY 0, 4, .inl br))] s.heap.size = A at hD ⊢
  have hA : ∀ q : Nat, s.heap.size ≤ q → A q := fun q h => by rw [← hAe]; exact Or.inr h
  have hS : va_S A s.heap s.heap [] := va_S.rf
  have hP : va_P (dC, dI) vwCl [(m0, .inr (8, mdL AM g)), (AM 0, .inl (cY 0, 72, .inl tb)), (AM 2, .inl (cY 0, 22, .inl sA)), (AM 3, .inl (cY 0, 22, .inl rd)), (AM 4, .inl (cY 0, 110, .inl kp)), (AM 5, .inl (cY 0, 8414, .inl td)), (AM 6, .inl (cY 0, 2, .inl wn)), (AM 13, .inl (cY 0, 4, .inl rw)), (AM 14, .inl (cY 0, 4, .inl br))] s.heap := hP
  have hl := lv_entry ([.ref m0, .int move, .int most, .int meter]) (n := 6) (Nat.le_of_ble_eq_true rfl)
  rw [lg_entry_eq]
  generalize (lg_sl ([.ref m0, .int move, .int most, .int meter]) ++ List.replicate (6 - (lg_sl ([.ref m0, .int move, .int most, .int meter])).length) Slot.unset).toArray = ls at hl ⊢
  have hl : lv_has ls 6 [(0, .ref m0), (1, .int move), (2, .int most), (3, .int meter)] := hl
  refine lv_aload_n hx hb dX8_search_0 rfl (lv_at hl 0 rfl) ?_
  refine lv_iconst (v := 0) hx hb dX8_search_1 (by decide) ?_
  refine va_put (D := (dC, dI)) (ci := 8) (v := .int 0) (ty := .int) (C := RX8) (T := TX8) (N := 17) hx hb hts inw_X8_search_X8 tyX8 tyX8_ok nmX8 hown hK hP hD hS 0 rfl rfl 15 (by decide) (hts (.fieldLink RX8 125 "DuelFramesModel" "bestLong" "I") (List.mem_of_getElem? (i := 1) rfl)) (fun _ h9 => h9) rfl (by decide +kernel) rfl rfl (Nat.le_of_ble_eq_true rfl) dX8_search_2 (fun H locs hP1 hD1 hS1 => ?_)
  clear hP hD hS
  have hP : va_P (dC, dI) vwCl [(m0, .inr (8, mdL AM (upd g 15 0))), (AM 0, .inl (cY 0, 72, .inl tb)), (AM 2, .inl (cY 0, 22, .inl sA)), (AM 3, .inl (cY 0, 22, .inl rd)), (AM 4, .inl (cY 0, 110, .inl kp)), (AM 5, .inl (cY 0, 8414, .inl td)), (AM 6, .inl (cY 0, 2, .inl wn)), (AM 13, .inl (cY 0, 4, .inl rw)), (AM 14, .inl (cY 0, 4, .inl br))] H := hP1
  have hD : va_D A [(m0, .inr (8, mdL AM (upd g 15 0))), (AM 0, .inl (cY 0, 72, .inl tb)), (AM 2, .inl (cY 0, 22, .inl sA)), (AM 3, .inl (cY 0, 22, .inl rd)), (AM 4, .inl (cY 0, 110, .inl kp)), (AM 5, .inl (cY 0, 8414, .inl td)), (AM 6, .inl (cY 0, 2, .inl wn)), (AM 13, .inl (cY 0, 4, .inl rw)), (AM 14, .inl (cY 0, 4, .inl br))] := hD1
  have hS := hS1
  clear hP1 hD1 hS1
  refine lv_aload_n hx hb dX8_search_5 rfl (lv_at hl 0 rfl) ?_
  refine lv_iconst (v := 0) hx hb dX8_search_6 (by decide) ?_
  refine va_put (D := (dC, dI)) (ci := 8) (v := .int 0) (ty := .int) (C := RX8) (T := TX8) (N := 17) hx hb hts inw_X8_search_X8 tyX8 tyX8_ok nmX8 hown hK hP hD hS 0 rfl rfl 16 (by decide) (hts (.fieldLink RX8 128 "DuelFramesModel" "bestLoss" "I") (List.mem_of_getElem? (i := 2) rfl)) (fun _ h9 => h9) rfl (by decide +kernel) rfl rfl (Nat.le_of_ble_eq_true rfl) dX8_search_7 (fun H locs hP1 hD1 hS1 => ?_)
  clear hP hD hS
  have hP : va_P (dC, dI) vwCl [(m0, .inr (8, mdL AM (upd (upd g 15 0) 16 0))), (AM 0, .inl (cY 0, 72, .inl tb)), (AM 2, .inl (cY 0, 22, .inl sA)), (AM 3, .inl (cY 0, 22, .inl rd)), (AM 4, .inl (cY 0, 110, .inl kp)), (AM 5, .inl (cY 0, 8414, .inl td)), (AM 6, .inl (cY 0, 2, .inl wn)), (AM 13, .inl (cY 0, 4, .inl rw)), (AM 14, .inl (cY 0, 4, .inl br))] H := hP1
  have hD : va_D A [(m0, .inr (8, mdL AM (upd (upd g 15 0) 16 0))), (AM 0, .inl (cY 0, 72, .inl tb)), (AM 2, .inl (cY 0, 22, .inl sA)), (AM 3, .inl (cY 0, 22, .inl rd)), (AM 4, .inl (cY 0, 110, .inl kp)), (AM 5, .inl (cY 0, 8414, .inl td)), (AM 6, .inl (cY 0, 2, .inl wn)), (AM 13, .inl (cY 0, 4, .inl rw)), (AM 14, .inl (cY 0, 4, .inl br))] := hD1
  have hS := hS1
  clear hP1 hD1 hS1
  refine lv_aload_n hx hb dX8_search_10 rfl (lv_at hl 0 rfl) ?_
  refine lv_sipush (v := 290) hx hb dX8_search_11 (by decide) ?_
  refine lv_sipush (v := 310) hx hb dX8_search_14 (by decide) ?_
  refine lv_iload_n hx hb dX8_search_17 rfl (lv_at hl 3 rfl) ?_
  refine lv_bipush (v := 100) hx hb dX8_search_18 (by decide) ?_
  have hPc := hP.sub (ws' := [(m0, .inr (8, mdL AM (upd (upd g 15 0) 16 0))), (AM 0, .inl (cY 0, 72, .inl tb)), (AM 2, .inl (cY 0, 22, .inl sA)), (AM 3, .inl (cY 0, 22, .inl rd)), (AM 4, .inl (cY 0, 110, .inl kp)), (AM 5, .inl (cY 0, 8414, .inl td)), (AM 6, .inl (cY 0, 2, .inl wn)), (AM 13, .inl (cY 0, 4, .inl rw)), (AM 14, .inl (cY 0, 4, .inl br))]) [0, 1, 2, 3, 4, 5, 6, 7, 8] rfl
  have hDc := hD.sub (ws' := [(m0, .inr (8, mdL AM (upd (upd g 15 0) 16 0))), (AM 0, .inl (cY 0, 72, .inl tb)), (AM 2, .inl (cY 0, 22, .inl sA)), (AM 3, .inl (cY 0, 22, .inl rd)), (AM 4, .inl (cY 0, 110, .inl kp)), (AM 5, .inl (cY 0, 8414, .inl td)), (AM 6, .inl (cY 0, 2, .inl wn)), (AM 13, .inl (cY 0, 4, .inl rw)), (AM 14, .inl (cY 0, 4, .inl br))]) [0, 1, 2, 3, 4, 5, 6, 7, 8] (by decide) rfl
  have hFc := va_free (wc := [(m0, .inr (8, mdL AM (upd (upd g 15 0) 16 0))), (AM 0, .inl (cY 0, 72, .inl tb)), (AM 2, .inl (cY 0, 22, .inl sA)), (AM 3, .inl (cY 0, 22, .inl rd)), (AM 4, .inl (cY 0, 110, .inl kp)), (AM 5, .inl (cY 0, 8414, .inl td)), (AM 6, .inl (cY 0, 2, .inl wn)), (AM 13, .inl (cY 0, 4, .inl rw)), (AM 14, .inl (cY 0, 4, .inl br))]) hD hS hA [0, 1, 2, 3, 4, 5, 6, 7, 8] rfl
  refine va_callv (va_runV (As := [.int 290, .int 310, .int meter, .int 100]) (rest := []) ⟨hx, hb, hml, hown, hts⟩ (c_X8_lay l dC dI cY m0 AM (upd (upd g 15 0) 16 0) tb sA rd kp td wn rw br 290 310 meter 100 H.size) (cwV 4 hts gX8_search_X8_lay rfl rfl rfl (by decide +kernel) ⟨Nat.le_of_ble_eq_true rfl, Nat.le_of_ble_eq_true rfl⟩) ⟨blindW, va_recv hK hPc (ci := 8) (q0 := 0) rfl rfl, fun U hU hW => ⟨rfl, wPre_of hPc hK hN hDc U hU hW⟩⟩ rfl rfl hl.1 rfl (lv_room (Nat.le_of_ble_eq_true rfl)) dX8_search_20 ⟨Nat.zero_le _, Nat.zero_le _⟩) hS (fun q _ h => hFc q h) hFc (fun u t H1 locs ht hvm hw hB hz1 hk1 hS1 => ?_)
  have hJ := wJoin (wr := []) (w1 := [(m0, .inr (8, mdL AM (upd (upd g 15 0) 16 0))), (AM 0, .inl (cY 0, 72, .inl tb)), (AM 2, .inl (cY 0, 22, .inl (X8_lay_w2 sA meter 310 100 290))), (AM 3, .inl (cY 0, 22, .inl rd)), (AM 4, .inl (cY 0, 110, .inl kp)), (AM 5, .inl (cY 0, 8414, .inl td)), (AM 6, .inl (cY 0, 2, .inl wn)), (AM 13, .inl (cY 0, 4, .inl rw)), (AM 14, .inl (cY 0, 4, .inl br))]) (wn := [(m0, .inr (8, mdL AM (upd (upd g 15 0) 16 0))), (AM 0, .inl (cY 0, 72, .inl tb)), (AM 2, .inl (cY 0, 22, .inl (X8_lay_w2 sA meter 310 100 290))), (AM 3, .inl (cY 0, 22, .inl rd)), (AM 4, .inl (cY 0, 110, .inl kp)), (AM 5, .inl (cY 0, 8414, .inl td)), (AM 6, .inl (cY 0, 2, .inl wn)), (AM 13, .inl (cY 0, 4, .inl rw)), (AM 14, .inl (cY 0, 4, .inl br))]) hP hD [0, 1, 2, 3, 4, 5, 6, 7, 8] [] rfl rfl (by decide) (by decide) hk1 hFc hB ht [0, 1, 2, 3, 4, 5, 6, 7, 8] rfl (by decide)
  clear hB hk1 hFc hPc hDc hP hD hS hz1 hvm ht t
  obtain ⟨hP1, hD1⟩ := hJ
  generalize H1 = H at hP1 hS1 ⊢
  have hP : va_P (dC, dI) vwCl [(m0, .inr (8, mdL AM (upd (upd g 15 0) 16 0))), (AM 0, .inl (cY 0, 72, .inl tb)), (AM 2, .inl (cY 0, 22, .inl (X8_lay_w2 sA meter 310 100 290))), (AM 3, .inl (cY 0, 22, .inl rd)), (AM 4, .inl (cY 0, 110, .inl kp)), (AM 5, .inl (cY 0, 8414, .inl td)), (AM 6, .inl (cY 0, 2, .inl wn)), (AM 13, .inl (cY 0, 4, .inl rw)), (AM 14, .inl (cY 0, 4, .inl br))] H := hP1
  have hD : va_D A [(m0, .inr (8, mdL AM (upd (upd g 15 0) 16 0))), (AM 0, .inl (cY 0, 72, .inl tb)), (AM 2, .inl (cY 0, 22, .inl (X8_lay_w2 sA meter 310 100 290))), (AM 3, .inl (cY 0, 22, .inl rd)), (AM 4, .inl (cY 0, 110, .inl kp)), (AM 5, .inl (cY 0, 8414, .inl td)), (AM 6, .inl (cY 0, 2, .inl wn)), (AM 13, .inl (cY 0, 4, .inl rw)), (AM 14, .inl (cY 0, 4, .inl br))] := hD1
  have hS := hS1
  clear hP1 hD1 hS1
  obtain ⟨z_2, ez_2⟩ : ∃ z, z = (X8_lay_w2 sA meter 310 100 290) := ⟨_, rfl⟩
  rw [← ez_2] at hP hD
  have hsz_2 : okS z_2 := by rw [ez_2]; exact okS_lay
  refine lv_aload_n hx hb dX8_search_23 rfl (lv_at hl 0 rfl) ?_
  refine lv_iload_n hx hb dX8_search_24 rfl (lv_at hl 1 rfl) ?_
  refine lv_iconst (v := 1) hx hb dX8_search_25 (by decide) ?_
  have hPc := hP.sub (ws' := [(m0, .inr (8, mdL AM (upd (upd g 15 0) 16 0))), (AM 0, .inl (cY 0, 72, .inl tb)), (AM 2, .inl (cY 0, 22, .inl z_2)), (AM 3, .inl (cY 0, 22, .inl rd)), (AM 4, .inl (cY 0, 110, .inl kp)), (AM 5, .inl (cY 0, 8414, .inl td)), (AM 6, .inl (cY 0, 2, .inl wn)), (AM 13, .inl (cY 0, 4, .inl rw)), (AM 14, .inl (cY 0, 4, .inl br))]) [0, 1, 2, 3, 4, 5, 6, 7, 8] rfl
  have hDc := hD.sub (ws' := [(m0, .inr (8, mdL AM (upd (upd g 15 0) 16 0))), (AM 0, .inl (cY 0, 72, .inl tb)), (AM 2, .inl (cY 0, 22, .inl z_2)), (AM 3, .inl (cY 0, 22, .inl rd)), (AM 4, .inl (cY 0, 110, .inl kp)), (AM 5, .inl (cY 0, 8414, .inl td)), (AM 6, .inl (cY 0, 2, .inl wn)), (AM 13, .inl (cY 0, 4, .inl rw)), (AM 14, .inl (cY 0, 4, .inl br))]) [0, 1, 2, 3, 4, 5, 6, 7, 8] (by decide) rfl
  have hFc := va_free (wc := [(m0, .inr (8, mdL AM (upd (upd g 15 0) 16 0))), (AM 0, .inl (cY 0, 72, .inl tb)), (AM 2, .inl (cY 0, 22, .inl z_2)), (AM 3, .inl (cY 0, 22, .inl rd)), (AM 4, .inl (cY 0, 110, .inl kp)), (AM 5, .inl (cY 0, 8414, .inl td)), (AM 6, .inl (cY 0, 2, .inl wn)), (AM 13, .inl (cY 0, 4, .inl rw)), (AM 14, .inl (cY 0, 4, .inl br))]) hD hS hA [0, 1, 2, 3, 4, 5, 6, 7, 8] rfl
  refine va_calli (va_runV (As := [.int move, .int 1]) (rest := []) ⟨hx, hb, hml, hown, hts⟩ (c_X8_hits l dC dI cY m0 AM (upd (upd g 15 0) 16 0) tb z_2 rd kp td wn rw br move 1 hsz_2 hm H.size) (cwV 2 hts gX8_search_X8_hits rfl rfl rfl (by decide +kernel) ⟨Nat.le_of_ble_eq_true rfl, Nat.le_of_ble_eq_true rfl⟩) ⟨blindW, va_recv hK hPc (ci := 8) (q0 := 0) rfl rfl, fun U hU hW => ⟨rfl, wPre_of hPc hK hN hDc U hU hW⟩⟩ rfl rfl hl.1 rfl (lv_room (Nat.le_of_ble_eq_true rfl)) dX8_search_26 ⟨Nat.zero_le _, Nat.zero_le _⟩) hS (fun q _ h => hFc q h) hFc (fun r_3 u t H1 locs ht hvm hw hB hz1 hk1 hS1 => ?_)
  obtain ⟨hw, hb_4⟩ := hw
  have er_3 := hw
  clear hw
  have hJ := wJoin (wr := []) (w1 := [(m0, .inr (8, mdL AM (X8_hit_run tb 1 move (z_2 17) 60 0 ((upd (upd g 15 0) 16 0), z_2, 0)).2.1)), (AM 0, .inl (cY 0, 72, .inl tb)), (AM 2, .inl (cY 0, 22, .inl (X8_hit_run tb 1 move (z_2 17) 60 0 ((upd (upd g 15 0) 16 0), z_2, 0)).2.2)), (AM 3, .inl (cY 0, 22, .inl rd)), (AM 4, .inl (cY 0, 110, .inl kp)), (AM 5, .inl (cY 0, 8414, .inl td)), (AM 6, .inl (cY 0, 2, .inl wn)), (AM 13, .inl (cY 0, 4, .inl rw)), (AM 14, .inl (cY 0, 4, .inl br))]) (wn := [(m0, .inr (8, mdL AM (X8_hit_run tb 1 move (z_2 17) 60 0 ((upd (upd g 15 0) 16 0), z_2, 0)).2.1)), (AM 0, .inl (cY 0, 72, .inl tb)), (AM 2, .inl (cY 0, 22, .inl (X8_hit_run tb 1 move (z_2 17) 60 0 ((upd (upd g 15 0) 16 0), z_2, 0)).2.2)), (AM 3, .inl (cY 0, 22, .inl rd)), (AM 4, .inl (cY 0, 110, .inl kp)), (AM 5, .inl (cY 0, 8414, .inl td)), (AM 6, .inl (cY 0, 2, .inl wn)), (AM 13, .inl (cY 0, 4, .inl rw)), (AM 14, .inl (cY 0, 4, .inl br))]) hP hD [0, 1, 2, 3, 4, 5, 6, 7, 8] [] rfl rfl (by decide) (by decide) hk1 hFc hB ht [0, 1, 2, 3, 4, 5, 6, 7, 8] rfl (by decide)
  clear hB hk1 hFc hPc hDc hP hD hS hz1 hvm ht t
  obtain ⟨hP1, hD1⟩ := hJ
  generalize H1 = H at hP1 hS1 ⊢
  have hP : va_P (dC, dI) vwCl [(m0, .inr (8, mdL AM (X8_hit_run tb 1 move (z_2 17) 60 0 ((upd (upd g 15 0) 16 0), z_2, 0)).2.1)), (AM 0, .inl (cY 0, 72, .inl tb)), (AM 2, .inl (cY 0, 22, .inl (X8_hit_run tb 1 move (z_2 17) 60 0 ((upd (upd g 15 0) 16 0), z_2, 0)).2.2)), (AM 3, .inl (cY 0, 22, .inl rd)), (AM 4, .inl (cY 0, 110, .inl kp)), (AM 5, .inl (cY 0, 8414, .inl td)), (AM 6, .inl (cY 0, 2, .inl wn)), (AM 13, .inl (cY 0, 4, .inl rw)), (AM 14, .inl (cY 0, 4, .inl br))] H := hP1
  have hD : va_D A [(m0, .inr (8, mdL AM (X8_hit_run tb 1 move (z_2 17) 60 0 ((upd (upd g 15 0) 16 0), z_2, 0)).2.1)), (AM 0, .inl (cY 0, 72, .inl tb)), (AM 2, .inl (cY 0, 22, .inl (X8_hit_run tb 1 move (z_2 17) 60 0 ((upd (upd g 15 0) 16 0), z_2, 0)).2.2)), (AM 3, .inl (cY 0, 22, .inl rd)), (AM 4, .inl (cY 0, 110, .inl kp)), (AM 5, .inl (cY 0, 8414, .inl td)), (AM 6, .inl (cY 0, 2, .inl wn)), (AM 13, .inl (cY 0, 4, .inl rw)), (AM 14, .inl (cY 0, 4, .inl br))] := hD1
  have hS := hS1
  clear hP1 hD1 hS1
  obtain ⟨z_5, ez_5⟩ : ∃ z, z = (X8_hit_run tb 1 move (z_2 17) 60 0 ((upd (upd g 15 0) 16 0), z_2, 0)).2.1 := ⟨_, rfl⟩
  rw [← ez_5] at hP hD
  obtain ⟨z_6, ez_6⟩ : ∃ z, z = (X8_hit_run tb 1 move (z_2 17) 60 0 ((upd (upd g 15 0) 16 0), z_2, 0)).2.2 := ⟨_, rfl⟩
  rw [← ez_6] at hP hD
  have hsz_6 : okS z_6 := by rw [ez_6]; exact okS_hit hm _ _ _ _ _ hsz_2
  refine lv_if_ne (tgt := 33) hx hb dX8_search_29 (by decide) (fun c_7 => ?_) (fun c_7 => ?_)
  · refine lv_aload_n hx hb dX8_search_33 rfl (lv_at hl 0 rfl) ?_
    refine va_get (D := (dC, dI)) (ci := 8) (v := .ref (AM 13)) (C := RX8) (T := TX8) (N := 17) hx hb hts inw_X8_search_X8 hown hK hP 0 rfl rfl 13 (by decide) (hts (.fieldLink RX8 35 "DuelFramesModel" "row" "[I") (List.mem_of_getElem? (i := 3) rfl)) (fun _ h9 => h9) rfl dX8_search_34 ?_
    refine lv_iconst (v := 0) hx hb dX8_search_37 (by decide) ?_
    refine lv_iload_n hx hb dX8_search_38 rfl (lv_at hl 1 rfl) ?_
    refine va_iast hx hb hK hP hD hS 7 0 rfl rfl (vin rfl) dX8_search_39 (fun H locs hP1 hD1 hS1 => ?_)
    clear hP hD hS
    have hP : va_P (dC, dI) vwCl [(m0, .inr (8, mdL AM z_5)), (AM 0, .inl (cY 0, 72, .inl tb)), (AM 2, .inl (cY 0, 22, .inl z_6)), (AM 3, .inl (cY 0, 22, .inl rd)), (AM 4, .inl (cY 0, 110, .inl kp)), (AM 5, .inl (cY 0, 8414, .inl td)), (AM 6, .inl (cY 0, 2, .inl wn)), (AM 13, .inl (cY 0, 4, .inl (upd rw 0 move))), (AM 14, .inl (cY 0, 4, .inl br))] H := hP1
    have hD : va_D A [(m0, .inr (8, mdL AM z_5)), (AM 0, .inl (cY 0, 72, .inl tb)), (AM 2, .inl (cY 0, 22, .inl z_6)), (AM 3, .inl (cY 0, 22, .inl rd)), (AM 4, .inl (cY 0, 110, .inl kp)), (AM 5, .inl (cY 0, 8414, .inl td)), (AM 6, .inl (cY 0, 2, .inl wn)), (AM 13, .inl (cY 0, 4, .inl (upd rw 0 move))), (AM 14, .inl (cY 0, 4, .inl br))] := hD1
    have hS := hS1
    clear hP1 hD1 hS1
    refine lv_aload_n hx hb dX8_search_40 rfl (lv_at hl 0 rfl) ?_
    refine lv_iconst (v := 1) hx hb dX8_search_41 (by decide) ?_
    have hPc := hP.sub (ws' := [(m0, .inr (8, mdL AM z_5)), (AM 0, .inl (cY 0, 72, .inl tb)), (AM 2, .inl (cY 0, 22, .inl z_6)), (AM 3, .inl (cY 0, 22, .inl rd)), (AM 4, .inl (cY 0, 110, .inl kp)), (AM 5, .inl (cY 0, 8414, .inl td)), (AM 6, .inl (cY 0, 2, .inl wn)), (AM 13, .inl (cY 0, 4, .inl (upd rw 0 move))), (AM 14, .inl (cY 0, 4, .inl br))]) [0, 1, 2, 3, 4, 5, 6, 7, 8] rfl
    have hDc := hD.sub (ws' := [(m0, .inr (8, mdL AM z_5)), (AM 0, .inl (cY 0, 72, .inl tb)), (AM 2, .inl (cY 0, 22, .inl z_6)), (AM 3, .inl (cY 0, 22, .inl rd)), (AM 4, .inl (cY 0, 110, .inl kp)), (AM 5, .inl (cY 0, 8414, .inl td)), (AM 6, .inl (cY 0, 2, .inl wn)), (AM 13, .inl (cY 0, 4, .inl (upd rw 0 move))), (AM 14, .inl (cY 0, 4, .inl br))]) [0, 1, 2, 3, 4, 5, 6, 7, 8] (by decide) rfl
    have hFc := va_free (wc := [(m0, .inr (8, mdL AM z_5)), (AM 0, .inl (cY 0, 72, .inl tb)), (AM 2, .inl (cY 0, 22, .inl z_6)), (AM 3, .inl (cY 0, 22, .inl rd)), (AM 4, .inl (cY 0, 110, .inl kp)), (AM 5, .inl (cY 0, 8414, .inl td)), (AM 6, .inl (cY 0, 2, .inl wn)), (AM 13, .inl (cY 0, 4, .inl (upd rw 0 move))), (AM 14, .inl (cY 0, 4, .inl br))]) hD hS hA [0, 1, 2, 3, 4, 5, 6, 7, 8] rfl
    refine va_callv (va_runV (As := [.int 1]) (rest := []) ⟨hx, hb, hml, hown, hts⟩ (c_X8_keepState l dC dI cY m0 AM z_5 tb z_6 rd kp td wn (upd rw 0 move) br 1 (by (try simp only [ez_6, ez_5, er_3, ez_2]); exact (vin rfl)) H.size) (cwV 1 hts gX8_search_X8_keepState rfl rfl rfl (by decide +kernel) ⟨Nat.le_of_ble_eq_true rfl, Nat.le_of_ble_eq_true rfl⟩) ⟨blindW, va_recv hK hPc (ci := 8) (q0 := 0) rfl rfl, fun U hU hW => ⟨rfl, wPre_of hPc hK hN hDc U hU hW⟩⟩ rfl rfl hl.1 rfl (lv_room (Nat.le_of_ble_eq_true rfl)) dX8_search_42 ⟨Nat.zero_le _, Nat.zero_le _⟩) hS (fun q _ h => hFc q h) hFc (fun u t H1 locs ht hvm hw hB hz1 hk1 hS1 => ?_)
    have hJ := wJoin (wr := []) (w1 := [(m0, .inr (8, mdL AM z_5)), (AM 0, .inl (cY 0, 72, .inl tb)), (AM 2, .inl (cY 0, 22, .inl z_6)), (AM 3, .inl (cY 0, 22, .inl rd)), (AM 4, .inl (cY 0, 110, .inl (X8_keepState_w4 z_6 kp 1))), (AM 5, .inl (cY 0, 8414, .inl td)), (AM 6, .inl (cY 0, 2, .inl wn)), (AM 13, .inl (cY 0, 4, .inl (upd rw 0 move))), (AM 14, .inl (cY 0, 4, .inl br))]) (wn := [(m0, .inr (8, mdL AM z_5)), (AM 0, .inl (cY 0, 72, .inl tb)), (AM 2, .inl (cY 0, 22, .inl z_6)), (AM 3, .inl (cY 0, 22, .inl rd)), (AM 4, .inl (cY 0, 110, .inl (X8_keepState_w4 z_6 kp 1))), (AM 5, .inl (cY 0, 8414, .inl td)), (AM 6, .inl (cY 0, 2, .inl wn)), (AM 13, .inl (cY 0, 4, .inl (upd rw 0 move))), (AM 14, .inl (cY 0, 4, .inl br))]) hP hD [0, 1, 2, 3, 4, 5, 6, 7, 8] [] rfl rfl (by decide) (by decide) hk1 hFc hB ht [0, 1, 2, 3, 4, 5, 6, 7, 8] rfl (by decide)
    clear hB hk1 hFc hPc hDc hP hD hS hz1 hvm ht t
    obtain ⟨hP1, hD1⟩ := hJ
    generalize H1 = H at hP1 hS1 ⊢
    have hP : va_P (dC, dI) vwCl [(m0, .inr (8, mdL AM z_5)), (AM 0, .inl (cY 0, 72, .inl tb)), (AM 2, .inl (cY 0, 22, .inl z_6)), (AM 3, .inl (cY 0, 22, .inl rd)), (AM 4, .inl (cY 0, 110, .inl (X8_keepState_w4 z_6 kp 1))), (AM 5, .inl (cY 0, 8414, .inl td)), (AM 6, .inl (cY 0, 2, .inl wn)), (AM 13, .inl (cY 0, 4, .inl (upd rw 0 move))), (AM 14, .inl (cY 0, 4, .inl br))] H := hP1
    have hD : va_D A [(m0, .inr (8, mdL AM z_5)), (AM 0, .inl (cY 0, 72, .inl tb)), (AM 2, .inl (cY 0, 22, .inl z_6)), (AM 3, .inl (cY 0, 22, .inl rd)), (AM 4, .inl (cY 0, 110, .inl (X8_keepState_w4 z_6 kp 1))), (AM 5, .inl (cY 0, 8414, .inl td)), (AM 6, .inl (cY 0, 2, .inl wn)), (AM 13, .inl (cY 0, 4, .inl (upd rw 0 move))), (AM 14, .inl (cY 0, 4, .inl br))] := hD1
    have hS := hS1
    clear hP1 hD1 hS1
    obtain ⟨z_9, ez_9⟩ : ∃ z, z = (X8_keepState_w4 z_6 kp 1) := ⟨_, rfl⟩
    rw [← ez_9] at hP hD
    have hkz_9 := ez_9
    refine lv_aload_n hx hb dX8_search_45 rfl (lv_at hl 0 rfl) ?_
    refine lv_iconst (v := 1) hx hb dX8_search_46 (by decide) ?_
    have hPc := hP.sub (ws' := [(m0, .inr (8, mdL AM z_5)), (AM 0, .inl (cY 0, 72, .inl tb)), (AM 2, .inl (cY 0, 22, .inl z_6)), (AM 3, .inl (cY 0, 22, .inl rd)), (AM 4, .inl (cY 0, 110, .inl z_9)), (AM 5, .inl (cY 0, 8414, .inl td)), (AM 6, .inl (cY 0, 2, .inl wn)), (AM 13, .inl (cY 0, 4, .inl (upd rw 0 move))), (AM 14, .inl (cY 0, 4, .inl br))]) [0, 1, 2, 3, 4, 5, 6, 7, 8] rfl
    have hDc := hD.sub (ws' := [(m0, .inr (8, mdL AM z_5)), (AM 0, .inl (cY 0, 72, .inl tb)), (AM 2, .inl (cY 0, 22, .inl z_6)), (AM 3, .inl (cY 0, 22, .inl rd)), (AM 4, .inl (cY 0, 110, .inl z_9)), (AM 5, .inl (cY 0, 8414, .inl td)), (AM 6, .inl (cY 0, 2, .inl wn)), (AM 13, .inl (cY 0, 4, .inl (upd rw 0 move))), (AM 14, .inl (cY 0, 4, .inl br))]) [0, 1, 2, 3, 4, 5, 6, 7, 8] (by decide) rfl
    have hFc := va_free (wc := [(m0, .inr (8, mdL AM z_5)), (AM 0, .inl (cY 0, 72, .inl tb)), (AM 2, .inl (cY 0, 22, .inl z_6)), (AM 3, .inl (cY 0, 22, .inl rd)), (AM 4, .inl (cY 0, 110, .inl z_9)), (AM 5, .inl (cY 0, 8414, .inl td)), (AM 6, .inl (cY 0, 2, .inl wn)), (AM 13, .inl (cY 0, 4, .inl (upd rw 0 move))), (AM 14, .inl (cY 0, 4, .inl br))]) hD hS hA [0, 1, 2, 3, 4, 5, 6, 7, 8] rfl
    refine va_callv (va_runV (As := [.int 1]) (rest := []) ⟨hx, hb, hml, hown, hts⟩ (c_X8_noteRow l dC dI cY m0 AM z_5 tb z_6 rd z_9 td wn (upd rw 0 move) br 1 (by (try simp only [ez_9, ez_6, ez_5, er_3, ez_2]); exact (vin rfl)) H.size) (cwV 1 hts gX8_search_X8_noteRow rfl rfl rfl (by decide +kernel) ⟨Nat.le_of_ble_eq_true rfl, Nat.le_of_ble_eq_true rfl⟩) ⟨blindW, va_recv hK hPc (ci := 8) (q0 := 0) rfl rfl, fun U hU hW => ⟨rfl, wPre_of hPc hK hN hDc U hU hW⟩⟩ rfl rfl hl.1 rfl (lv_room (Nat.le_of_ble_eq_true rfl)) dX8_search_47 ⟨Nat.zero_le _, Nat.zero_le _⟩) hS (fun q _ h => hFc q h) hFc (fun u t H1 locs ht hvm hw hB hz1 hk1 hS1 => ?_)
    have hJ := wJoin (wr := []) (w1 := [(m0, .inr (8, mdL AM (X8_noteRow_w0 z_5 z_6 1))), (AM 0, .inl (cY 0, 72, .inl tb)), (AM 2, .inl (cY 0, 22, .inl z_6)), (AM 3, .inl (cY 0, 22, .inl rd)), (AM 4, .inl (cY 0, 110, .inl z_9)), (AM 5, .inl (cY 0, 8414, .inl td)), (AM 6, .inl (cY 0, 2, .inl wn)), (AM 13, .inl (cY 0, 4, .inl (upd rw 0 move))), (AM 14, .inl (cY 0, 4, .inl (X8_noteRow_w8 z_5 z_6 (upd rw 0 move) br 1)))]) (wn := [(m0, .inr (8, mdL AM (X8_noteRow_w0 z_5 z_6 1))), (AM 0, .inl (cY 0, 72, .inl tb)), (AM 2, .inl (cY 0, 22, .inl z_6)), (AM 3, .inl (cY 0, 22, .inl rd)), (AM 4, .inl (cY 0, 110, .inl z_9)), (AM 5, .inl (cY 0, 8414, .inl td)), (AM 6, .inl (cY 0, 2, .inl wn)), (AM 13, .inl (cY 0, 4, .inl (upd rw 0 move))), (AM 14, .inl (cY 0, 4, .inl (X8_noteRow_w8 z_5 z_6 (upd rw 0 move) br 1)))]) hP hD [0, 1, 2, 3, 4, 5, 6, 7, 8] [] rfl rfl (by decide) (by decide) hk1 hFc hB ht [0, 1, 2, 3, 4, 5, 6, 7, 8] rfl (by decide)
    clear hB hk1 hFc hPc hDc hP hD hS hz1 hvm ht t
    obtain ⟨hP1, hD1⟩ := hJ
    generalize H1 = H at hP1 hS1 ⊢
    have hP : va_P (dC, dI) vwCl [(m0, .inr (8, mdL AM (X8_noteRow_w0 z_5 z_6 1))), (AM 0, .inl (cY 0, 72, .inl tb)), (AM 2, .inl (cY 0, 22, .inl z_6)), (AM 3, .inl (cY 0, 22, .inl rd)), (AM 4, .inl (cY 0, 110, .inl z_9)), (AM 5, .inl (cY 0, 8414, .inl td)), (AM 6, .inl (cY 0, 2, .inl wn)), (AM 13, .inl (cY 0, 4, .inl (upd rw 0 move))), (AM 14, .inl (cY 0, 4, .inl (X8_noteRow_w8 z_5 z_6 (upd rw 0 move) br 1)))] H := hP1
    have hD : va_D A [(m0, .inr (8, mdL AM (X8_noteRow_w0 z_5 z_6 1))), (AM 0, .inl (cY 0, 72, .inl tb)), (AM 2, .inl (cY 0, 22, .inl z_6)), (AM 3, .inl (cY 0, 22, .inl rd)), (AM 4, .inl (cY 0, 110, .inl z_9)), (AM 5, .inl (cY 0, 8414, .inl td)), (AM 6, .inl (cY 0, 2, .inl wn)), (AM 13, .inl (cY 0, 4, .inl (upd rw 0 move))), (AM 14, .inl (cY 0, 4, .inl (X8_noteRow_w8 z_5 z_6 (upd rw 0 move) br 1)))] := hD1
    have hS := hS1
    clear hP1 hD1 hS1
    obtain ⟨z_11, ez_11⟩ : ∃ z, z = (X8_noteRow_w0 z_5 z_6 1) := ⟨_, rfl⟩
    rw [← ez_11] at hP hD
    obtain ⟨z_12, ez_12⟩ : ∃ z, z = (X8_noteRow_w8 z_5 z_6 (upd rw 0 move) br 1) := ⟨_, rfl⟩
    rw [← ez_12] at hP hD
    refine lv_iconst (v := 1) hx hb dX8_search_50 (by decide) ?_
    refine lv_istore (lv' := [(4, .int 1), (0, .ref m0), (1, .int move), (2, .int most), (3, .int meter)]) hx hb dX8_search_51 hl (by decide) rfl (fun ls hl => ?_)
    refine lv_iconst (v := 0) hx hb dX8_search_53 (by decide) ?_
    refine lv_istore (lv' := [(5, .int 0), (4, .int 1), (0, .ref m0), (1, .int move), (2, .int most), (3, .int meter)]) hx hb dX8_search_54 hl (by decide) rfl (fun ls hl => ?_)
    refine loopI (D := (dC, dI)) (σ := (Nat → Int32) × (Nat → Int32) × (Nat → Int32) × (Nat → Int32) × (Nat → Int32) × Int32 × Int32) 65536 (fun j x => [(m0, .inr (8, mdL AM x.1)), (AM 0, .inl (cY 0, 72, .inl tb)), (AM 2, .inl (cY 0, 22, .inl x.2.1)), (AM 3, .inl (cY 0, 22, .inl rd)), (AM 4, .inl (cY 0, 110, .inl x.2.2.1)), (AM 5, .inl (cY 0, 8414, .inl td)), (AM 6, .inl (cY 0, 2, .inl wn)), (AM 13, .inl (cY 0, 4, .inl x.2.2.2.1)), (AM 14, .inl (cY 0, 4, .inl x.2.2.2.2.1))]) (fun j x => [(0, .ref m0), (2, .int most), (4, .int x.2.2.2.2.2.1), (5, .int x.2.2.2.2.2.2)]) 56 6 (A := A) (H0 := s.heap) (fun j x => X8_sea_run tb most 65536 0 (z_11, z_6, z_9, (upd rw 0 move), z_12, 1, 0) = X8_sea_run tb most (65536 - j) j x ∧ seaI cnt mm j x.1 x.2.2.1 x.2.2.2.1 x.2.2.2.2.2.1 x.2.2.2.2.2.2) ?_ ?_ (z_11, z_6, z_9, (upd rw 0 move), z_12, 1, 0) ⟨rfl, sea_init hmm.2.1 (show z_11 1 = nI cnt by rw [ez_11, note_g (by decide) (by decide), ez_5, hit_g (by decide)]; exact hcn.1) (show ∃ b, b ≤ 4 ∧ z_11 15 = nI b by rw [ez_11]; exact note_15 (many := 1) (by decide) ⟨0, by decide, by rw [ez_5, hit_g (by decide)]; rfl⟩) (show okS (fun q => z_9 (22 * 1 + q)) by rw [ez_9]; exact sea_keep1 hsz_6)⟩ hP hD hS (lv_sub hl [2, 4, 1, 0] rfl)
    · rintro j ⟨g9, sA9, kp9, rw9, br9, dp, nx⟩ hj hi H locs ls hP hD hS hl hk
      have hP : va_P (dC, dI) vwCl [(m0, .inr (8, mdL AM g9)), (AM 0, .inl (cY 0, 72, .inl tb)), (AM 2, .inl (cY 0, 22, .inl sA9)), (AM 3, .inl (cY 0, 22, .inl rd)), (AM 4, .inl (cY 0, 110, .inl kp9)), (AM 5, .inl (cY 0, 8414, .inl td)), (AM 6, .inl (cY 0, 2, .inl wn)), (AM 13, .inl (cY 0, 4, .inl rw9)), (AM 14, .inl (cY 0, 4, .inl br9))] H := hP
      have hD : va_D A [(m0, .inr (8, mdL AM g9)), (AM 0, .inl (cY 0, 72, .inl tb)), (AM 2, .inl (cY 0, 22, .inl sA9)), (AM 3, .inl (cY 0, 22, .inl rd)), (AM 4, .inl (cY 0, 110, .inl kp9)), (AM 5, .inl (cY 0, 8414, .inl td)), (AM 6, .inl (cY 0, 2, .inl wn)), (AM 13, .inl (cY 0, 4, .inl rw9)), (AM 14, .inl (cY 0, 4, .inl br9))] := hD
      have hl : lv_has ls 6 [(0, .ref m0), (2, .int most), (4, .int dp), (5, .int nx)] := hl
      (try dsimp only at hi)
      have hsi := hi.2
      refine lv_iload hx hb dX8_search_56 (lv_at hl 2 rfl) ?_
      refine lv_if_le (tgt := 154) hx hb dX8_search_58 (by decide) (fun c_13 => ?_) (fun c_13 => ?_)
      · have hr9 : X8_sea_run tb most 65536 0 (z_11, z_6, z_9, (upd rw 0 move), z_12, 1, 0) = (g9, sA9, kp9, rw9, br9, dp, nx) := by rw [hi.1, show 65536 - j = (65536 - (j + 1)) + 1 by omega, X8_sea_run_s]; simp only [← ez_2, ← er_3, ← ez_5, ← ez_6, ← ez_9, ← ez_11, ← ez_12, eq_true c_13, ↓reduceIte]
        have q56_0 : g9 = (X8_sea_run tb most 65536 0 (z_11, z_6, z_9, (upd rw 0 move), z_12, 1, 0)).1 := congrArg (fun z => z.1) hr9.symm
        have q56_1 : sA9 = (X8_sea_run tb most 65536 0 (z_11, z_6, z_9, (upd rw 0 move), z_12, 1, 0)).2.1 := congrArg (fun z => z.2.1) hr9.symm
        have q56_2 : kp9 = (X8_sea_run tb most 65536 0 (z_11, z_6, z_9, (upd rw 0 move), z_12, 1, 0)).2.2.1 := congrArg (fun z => z.2.2.1) hr9.symm
        have q56_3 : rw9 = (X8_sea_run tb most 65536 0 (z_11, z_6, z_9, (upd rw 0 move), z_12, 1, 0)).2.2.2.1 := congrArg (fun z => z.2.2.2.1) hr9.symm
        have q56_4 : br9 = (X8_sea_run tb most 65536 0 (z_11, z_6, z_9, (upd rw 0 move), z_12, 1, 0)).2.2.2.2.1 := congrArg (fun z => z.2.2.2.2.1) hr9.symm
        have q56_5 : dp = (X8_sea_run tb most 65536 0 (z_11, z_6, z_9, (upd rw 0 move), z_12, 1, 0)).2.2.2.2.2.1 := congrArg (fun z => z.2.2.2.2.2.1) hr9.symm
        have q56_6 : nx = (X8_sea_run tb most 65536 0 (z_11, z_6, z_9, (upd rw 0 move), z_12, 1, 0)).2.2.2.2.2.2 := congrArg (fun z => z.2.2.2.2.2.2) hr9.symm
        have eo_14 : (X8_search_w0 g tb sA kp rw br meter most move) = g9 := by rw [X8_search_w0]; simp only [← ez_2, ← er_3, ← ez_5, ← ez_6, ← ez_9, ← ez_11, ← ez_12, ← q56_0, ← q56_1, ← q56_2, ← q56_3, ← q56_4, ← q56_5, ← q56_6, eq_false c_7, ↓reduceIte]
        have eo_15 : (X8_search_w2 g tb sA kp rw br meter most move) = sA9 := by rw [X8_search_w2]; simp only [← ez_2, ← er_3, ← ez_5, ← ez_6, ← ez_9, ← ez_11, ← ez_12, ← q56_0, ← q56_1, ← q56_2, ← q56_3, ← q56_4, ← q56_5, ← q56_6, eq_false c_7, ↓reduceIte]
        have eo_16 : (X8_search_w4 g tb sA kp rw br meter most move) = kp9 := by rw [X8_search_w4]; simp only [← ez_2, ← er_3, ← ez_5, ← ez_6, ← ez_9, ← ez_11, ← ez_12, ← q56_0, ← q56_1, ← q56_2, ← q56_3, ← q56_4, ← q56_5, ← q56_6, eq_false c_7, ↓reduceIte]
        have eo_17 : (X8_search_w7 g tb sA kp rw br meter most move) = rw9 := by rw [X8_search_w7]; simp only [← ez_2, ← er_3, ← ez_5, ← ez_6, ← ez_9, ← ez_11, ← ez_12, ← q56_0, ← q56_1, ← q56_2, ← q56_3, ← q56_4, ← q56_5, ← q56_6, eq_false c_7, ↓reduceIte]
        have eo_18 : (X8_search_w8 g tb sA kp rw br meter most move) = br9 := by rw [X8_search_w8]; simp only [← ez_2, ← er_3, ← ez_5, ← ez_6, ← ez_9, ← ez_11, ← ez_12, ← q56_0, ← q56_1, ← q56_2, ← q56_3, ← q56_4, ← q56_5, ← q56_6, eq_false c_7, ↓reduceIte]
        have hP9 : va_P (dC, dI) vwCl [(m0, .inr (8, mdL AM (X8_search_w0 g tb sA kp rw br meter most move))), (AM 0, .inl (cY 0, 72, .inl tb)), (AM 2, .inl (cY 0, 22, .inl (X8_search_w2 g tb sA kp rw br meter most move))), (AM 3, .inl (cY 0, 22, .inl rd)), (AM 4, .inl (cY 0, 110, .inl (X8_search_w4 g tb sA kp rw br meter most move))), (AM 5, .inl (cY 0, 8414, .inl td)), (AM 6, .inl (cY 0, 2, .inl wn)), (AM 13, .inl (cY 0, 4, .inl (X8_search_w7 g tb sA kp rw br meter most move))), (AM 14, .inl (cY 0, 4, .inl (X8_search_w8 g tb sA kp rw br meter most move)))] H := by simp only [eo_14, eo_15, eo_16, eo_17, eo_18]; exact hP
        have hD9 : va_D A [(m0, .inr (8, mdL AM (X8_search_w0 g tb sA kp rw br meter most move))), (AM 0, .inl (cY 0, 72, .inl tb)), (AM 2, .inl (cY 0, 22, .inl (X8_search_w2 g tb sA kp rw br meter most move))), (AM 3, .inl (cY 0, 22, .inl rd)), (AM 4, .inl (cY 0, 110, .inl (X8_search_w4 g tb sA kp rw br meter most move))), (AM 5, .inl (cY 0, 8414, .inl td)), (AM 6, .inl (cY 0, 2, .inl wn)), (AM 13, .inl (cY 0, 4, .inl (X8_search_w7 g tb sA kp rw br meter most move))), (AM 14, .inl (cY 0, 4, .inl (X8_search_w8 g tb sA kp rw br meter most move)))] := by simp only [eo_14, eo_15, eo_16, eo_17, eo_18]; exact hD
        exact W.vret hx hb hr (fun t ht hW => ⟨⟨(), rfl, trivial, wPost_of hP9 hD9 ht⟩, hS.F ht⟩) hS.2.2 dX8_search_154
      · refine lv_iload hx hb dX8_search_61 (lv_at hl 2 rfl) ?_
        refine lv_iload_n hx hb dX8_search_63 rfl (lv_at hl 1 rfl) ?_
        refine lv_icmp_eq (tgt := 76) hx hb dX8_search_64 (by decide) (fun c_14 => ?_) (fun c_14 => ?_)
        · refine lv_iinc (v := (dp + (-1))) (lv' := [(4, .int (dp + (-1))), (0, .ref m0), (2, .int most), (5, .int nx)]) hx hb dX8_search_76 hl (k := 2) rfl (by first | rfl | decide) (by decide) rfl (fun ls hl => ?_)
          refine lv_iload hx hb dX8_search_79 (lv_at hl 0 rfl) ?_
          refine jnW (D := (dC, dI)) (ws := [(m0, .inr (8, mdL AM g9)), (AM 0, .inl (cY 0, 72, .inl tb)), (AM 2, .inl (cY 0, 22, .inl sA9)), (AM 3, .inl (cY 0, 22, .inl rd)), (AM 4, .inl (cY 0, 110, .inl kp9)), (AM 5, .inl (cY 0, 8414, .inl td)), (AM 6, .inl (cY 0, 2, .inl wn)), (AM 13, .inl (cY 0, 4, .inl rw9)), (AM 14, .inl (cY 0, 4, .inl br9))]) (lv := [(4, .int (dp + (-1))), (0, .ref m0), (2, .int most)]) (st := [.int (X8_search_j97 dp rw9)]) (J := 97) (n := 6) (A := A) (H0 := s.heap) ?_ ?_
          · intro H locs ls hP hD hS hl
            refine lv_istore (lv' := [(5, .int (X8_search_j97 dp rw9)), (4, .int (dp + (-1))), (0, .ref m0), (2, .int most)]) hx hb dX8_search_97 hl (by decide) rfl (fun ls hl => ?_)
            refine lv_goto (tgt := 56) hx hb dX8_search_99 (by decide) ?_
            have e_17 : (X8_search_L56_g9 tb dp g9 kp9 most nx sA9) = g9 := by rw [X8_search_L56_g9]; simp only [← ez_2, ← er_3, ← ez_5, ← ez_6, ← ez_9, ← ez_11, ← ez_12, eq_true c_14, ↓reduceIte]
            have e_18 : (X8_search_L56_sA9 tb dp g9 kp9 most nx sA9) = sA9 := by rw [X8_search_L56_sA9]; simp only [← ez_2, ← er_3, ← ez_5, ← ez_6, ← ez_9, ← ez_11, ← ez_12, eq_true c_14, ↓reduceIte]
            have e_19 : (X8_search_L56_kp9 tb dp g9 kp9 most nx sA9) = kp9 := by rw [X8_search_L56_kp9]; simp only [← ez_2, ← er_3, ← ez_5, ← ez_6, ← ez_9, ← ez_11, ← ez_12, eq_true c_14, ↓reduceIte]
            have e_20 : (X8_search_L56_rw9 tb dp g9 kp9 most nx rw9 sA9) = rw9 := by rw [X8_search_L56_rw9]; simp only [← ez_2, ← er_3, ← ez_5, ← ez_6, ← ez_9, ← ez_11, ← ez_12, eq_true c_14, ↓reduceIte]
            have e_21 : (X8_search_L56_br9 tb br9 dp g9 kp9 most nx rw9 sA9) = br9 := by rw [X8_search_L56_br9]; simp only [← ez_2, ← er_3, ← ez_5, ← ez_6, ← ez_9, ← ez_11, ← ez_12, eq_true c_14, ↓reduceIte]
            have e_22 : (X8_search_L56_dp tb dp g9 kp9 most nx sA9) = (dp + (-1)) := by rw [X8_search_L56_dp]; simp only [← ez_2, ← er_3, ← ez_5, ← ez_6, ← ez_9, ← ez_11, ← ez_12, eq_true c_14, ↓reduceIte]
            have e_23 : (X8_search_L56_nx tb dp g9 kp9 most nx rw9 sA9) = (X8_search_j97 dp rw9) := by rw [X8_search_L56_nx]; simp only [← ez_2, ← er_3, ← ez_5, ← ez_6, ← ez_9, ← ez_11, ← ez_12, eq_true c_14, ↓reduceIte]
            have hP9 : va_P (dC, dI) vwCl [(m0, .inr (8, mdL AM (X8_search_L56_g9 tb dp g9 kp9 most nx sA9))), (AM 0, .inl (cY 0, 72, .inl tb)), (AM 2, .inl (cY 0, 22, .inl (X8_search_L56_sA9 tb dp g9 kp9 most nx sA9))), (AM 3, .inl (cY 0, 22, .inl rd)), (AM 4, .inl (cY 0, 110, .inl (X8_search_L56_kp9 tb dp g9 kp9 most nx sA9))), (AM 5, .inl (cY 0, 8414, .inl td)), (AM 6, .inl (cY 0, 2, .inl wn)), (AM 13, .inl (cY 0, 4, .inl (X8_search_L56_rw9 tb dp g9 kp9 most nx rw9 sA9))), (AM 14, .inl (cY 0, 4, .inl (X8_search_L56_br9 tb br9 dp g9 kp9 most nx rw9 sA9)))] H := by simp only [e_17, e_18, e_19, e_20, e_21, e_22, e_23]; exact hP
            have hD9 : va_D A [(m0, .inr (8, mdL AM (X8_search_L56_g9 tb dp g9 kp9 most nx sA9))), (AM 0, .inl (cY 0, 72, .inl tb)), (AM 2, .inl (cY 0, 22, .inl (X8_search_L56_sA9 tb dp g9 kp9 most nx sA9))), (AM 3, .inl (cY 0, 22, .inl rd)), (AM 4, .inl (cY 0, 110, .inl (X8_search_L56_kp9 tb dp g9 kp9 most nx sA9))), (AM 5, .inl (cY 0, 8414, .inl td)), (AM 6, .inl (cY 0, 2, .inl wn)), (AM 13, .inl (cY 0, 4, .inl (X8_search_L56_rw9 tb dp g9 kp9 most nx rw9 sA9))), (AM 14, .inl (cY 0, 4, .inl (X8_search_L56_br9 tb br9 dp g9 kp9 most nx rw9 sA9)))] := by simp only [e_17, e_18, e_19, e_20, e_21, e_22, e_23]; exact hD
            have hl9 : lv_has ls 6 [(0, .ref m0), (2, .int most), (4, .int (X8_search_L56_dp tb dp g9 kp9 most nx sA9)), (5, .int (X8_search_L56_nx tb dp g9 kp9 most nx rw9 sA9))] := by (try simp only [e_17, e_18, e_19, e_20, e_21, e_22, e_23]); exact lv_sub hl [2, 3, 1, 0] rfl
            replace hk := hk ((X8_search_L56_g9 tb dp g9 kp9 most nx sA9), (X8_search_L56_sA9 tb dp g9 kp9 most nx sA9), (X8_search_L56_kp9 tb dp g9 kp9 most nx sA9), (X8_search_L56_rw9 tb dp g9 kp9 most nx rw9 sA9), (X8_search_L56_br9 tb br9 dp g9 kp9 most nx rw9 sA9), (X8_search_L56_dp tb dp g9 kp9 most nx sA9), (X8_search_L56_nx tb dp g9 kp9 most nx rw9 sA9))
            (try dsimp only at hk)
            exact hk ⟨by rw [hi.1, show 65536 - j = (65536 - (j + 1)) + 1 by omega, X8_sea_run_s]; simp only [← ez_2, ← er_3, ← ez_5, ← ez_6, ← ez_9, ← ez_11, ← ez_12, eq_false c_13, ↓reduceIte], sea_step hcn.2 hmm hi.2 c_13⟩ _ _ _ hP9 hD9 hS hl9
          · intro jn_16
            refine lv_if_le (tgt := 96) hx hb dX8_search_81 (by decide) (fun c_15 => ?_) (fun c_15 => ?_)
            · refine lv_iconst (v := 0) hx hb dX8_search_96 (by decide) ?_
              have e_24 : (X8_search_j97 dp rw9) = 0 := by rw [X8_search_j97]; simp only [← ez_2, ← er_3, ← ez_5, ← ez_6, ← ez_9, ← ez_11, ← ez_12, eq_true c_15, ↓reduceIte]
              refine W.eq (g2 := F0 m 97 ls [.int (X8_search_j97 dp rw9)]) (by simp only [e_24]) ?_
              exact jn_16 _ _ _ (by (try simp only [e_24]); exact hP) (by (try simp only [e_24]); exact hD) hS (by (try simp only [e_24]); exact (lv_sub hl [0, 1, 2] rfl))
            · refine lv_aload_n hx hb dX8_search_84 rfl (lv_at hl 1 rfl) ?_
              refine va_get (D := (dC, dI)) (ci := 8) (v := .ref (AM 13)) (C := RX8) (T := TX8) (N := 17) hx hb hts inw_X8_search_X8 hown hK hP 0 rfl rfl 13 (by decide) (hts (.fieldLink RX8 35 "DuelFramesModel" "row" "[I") (List.mem_of_getElem? (i := 3) rfl)) (fun _ h9 => h9) rfl dX8_search_85 ?_
              refine lv_iload hx hb dX8_search_88 (lv_at hl 0 rfl) ?_
              refine va_iald hx hb hK hP 7 0 rfl rfl (by (try simp only [ez_12, ez_11, ez_9, ez_6, ez_5, er_3, ez_2]); exact (sea_d3 hmm.2.2 hsi c_13)) dX8_search_90 ?_
              refine lv_topi (fun x_25 ex_25 => ?_)
              obtain rfl : x_25 = (rw9 (dp + (-1)).toNatClampNeg) := ex_25
              refine lv_iconst (v := 1) hx hb dX8_search_91 (by decide) ?_
              refine lv_iadd hx hb dX8_search_92 ?_
              refine lv_goto (tgt := 97) hx hb dX8_search_93 (by decide) ?_
              have e_26 : (X8_search_j97 dp rw9) = ((rw9 (dp + (-1)).toNatClampNeg) + 1) := by rw [X8_search_j97]; simp only [← ez_2, ← er_3, ← ez_5, ← ez_6, ← ez_9, ← ez_11, ← ez_12, eq_false c_15, ↓reduceIte]
              refine W.eq (g2 := F0 m 97 ls [.int (X8_search_j97 dp rw9)]) (by simp only [e_26]) ?_
              exact jn_16 _ _ _ (by (try simp only [e_26]); exact hP) (by (try simp only [e_26]); exact hD) hS (by (try simp only [e_26]); exact (lv_sub hl [0, 1, 2] rfl))
        · refine lv_iload hx hb dX8_search_67 (lv_at hl 3 rfl) ?_
          refine lv_aload_n hx hb dX8_search_69 rfl (lv_at hl 0 rfl) ?_
          refine va_get (D := (dC, dI)) (ci := 8) (v := .int (g9 1)) (C := RX8) (T := TX8) (N := 17) hx hb hts inw_X8_search_X8 hown hK hP 0 rfl rfl 1 (by decide) (hts (.fieldLink RX8 44 "DuelFramesModel" "moves" "I") (List.mem_of_getElem? (i := 4) rfl)) (fun _ h9 => h9) rfl dX8_search_70 ?_
          refine lv_icmp_ne (tgt := 102) hx hb dX8_search_73 (by decide) (fun c_27 => ?_) (fun c_27 => ?_)
          · refine lv_aload_n hx hb dX8_search_102 rfl (lv_at hl 0 rfl) ?_
            refine lv_iload hx hb dX8_search_103 (lv_at hl 2 rfl) ?_
            have hPc := hP.sub (ws' := [(m0, .inr (8, mdL AM g9)), (AM 0, .inl (cY 0, 72, .inl tb)), (AM 2, .inl (cY 0, 22, .inl sA9)), (AM 3, .inl (cY 0, 22, .inl rd)), (AM 4, .inl (cY 0, 110, .inl kp9)), (AM 5, .inl (cY 0, 8414, .inl td)), (AM 6, .inl (cY 0, 2, .inl wn)), (AM 13, .inl (cY 0, 4, .inl rw9)), (AM 14, .inl (cY 0, 4, .inl br9))]) [0, 1, 2, 3, 4, 5, 6, 7, 8] rfl
            have hDc := hD.sub (ws' := [(m0, .inr (8, mdL AM g9)), (AM 0, .inl (cY 0, 72, .inl tb)), (AM 2, .inl (cY 0, 22, .inl sA9)), (AM 3, .inl (cY 0, 22, .inl rd)), (AM 4, .inl (cY 0, 110, .inl kp9)), (AM 5, .inl (cY 0, 8414, .inl td)), (AM 6, .inl (cY 0, 2, .inl wn)), (AM 13, .inl (cY 0, 4, .inl rw9)), (AM 14, .inl (cY 0, 4, .inl br9))]) [0, 1, 2, 3, 4, 5, 6, 7, 8] (by decide) rfl
            have hFc := va_free (wc := [(m0, .inr (8, mdL AM g9)), (AM 0, .inl (cY 0, 72, .inl tb)), (AM 2, .inl (cY 0, 22, .inl sA9)), (AM 3, .inl (cY 0, 22, .inl rd)), (AM 4, .inl (cY 0, 110, .inl kp9)), (AM 5, .inl (cY 0, 8414, .inl td)), (AM 6, .inl (cY 0, 2, .inl wn)), (AM 13, .inl (cY 0, 4, .inl rw9)), (AM 14, .inl (cY 0, 4, .inl br9))]) hD hS hA [0, 1, 2, 3, 4, 5, 6, 7, 8] rfl
            refine va_callv (va_runV (As := [.int dp]) (rest := []) ⟨hx, hb, hml, hown, hts⟩ (c_X8_fetch l dC dI cY m0 AM g9 tb sA9 rd kp9 td wn rw9 br9 dp (by (try simp only [ez_12, ez_11, ez_9, ez_6, ez_5, er_3, ez_2]); exact (sea_d5 hmm.2.2 hsi)) H.size) (cwV 1 hts gX8_search_X8_fetch rfl rfl rfl (by decide +kernel) ⟨Nat.le_of_ble_eq_true rfl, Nat.le_of_ble_eq_true rfl⟩) ⟨blindW, va_recv hK hPc (ci := 8) (q0 := 0) rfl rfl, fun U hU hW => ⟨rfl, wPre_of hPc hK hN hDc U hU hW⟩⟩ rfl rfl hl.1 rfl (lv_room (Nat.le_of_ble_eq_true rfl)) dX8_search_105 ⟨Nat.zero_le _, Nat.zero_le _⟩) hS (fun q _ h => hFc q h) hFc (fun u t H1 locs ht hvm hw hB hz1 hk1 hS1 => ?_)
            have hJ := wJoin (wr := []) (w1 := [(m0, .inr (8, mdL AM g9)), (AM 0, .inl (cY 0, 72, .inl tb)), (AM 2, .inl (cY 0, 22, .inl (X8_fetch_w2 sA9 kp9 dp))), (AM 3, .inl (cY 0, 22, .inl rd)), (AM 4, .inl (cY 0, 110, .inl kp9)), (AM 5, .inl (cY 0, 8414, .inl td)), (AM 6, .inl (cY 0, 2, .inl wn)), (AM 13, .inl (cY 0, 4, .inl rw9)), (AM 14, .inl (cY 0, 4, .inl br9))]) (wn := [(m0, .inr (8, mdL AM g9)), (AM 0, .inl (cY 0, 72, .inl tb)), (AM 2, .inl (cY 0, 22, .inl (X8_fetch_w2 sA9 kp9 dp))), (AM 3, .inl (cY 0, 22, .inl rd)), (AM 4, .inl (cY 0, 110, .inl kp9)), (AM 5, .inl (cY 0, 8414, .inl td)), (AM 6, .inl (cY 0, 2, .inl wn)), (AM 13, .inl (cY 0, 4, .inl rw9)), (AM 14, .inl (cY 0, 4, .inl br9))]) hP hD [0, 1, 2, 3, 4, 5, 6, 7, 8] [] rfl rfl (by decide) (by decide) hk1 hFc hB ht [0, 1, 2, 3, 4, 5, 6, 7, 8] rfl (by decide)
            clear hB hk1 hFc hPc hDc hP hD hS hz1 hvm ht t
            obtain ⟨hP1, hD1⟩ := hJ
            generalize H1 = H at hP1 hS1 ⊢
            have hP : va_P (dC, dI) vwCl [(m0, .inr (8, mdL AM g9)), (AM 0, .inl (cY 0, 72, .inl tb)), (AM 2, .inl (cY 0, 22, .inl (X8_fetch_w2 sA9 kp9 dp))), (AM 3, .inl (cY 0, 22, .inl rd)), (AM 4, .inl (cY 0, 110, .inl kp9)), (AM 5, .inl (cY 0, 8414, .inl td)), (AM 6, .inl (cY 0, 2, .inl wn)), (AM 13, .inl (cY 0, 4, .inl rw9)), (AM 14, .inl (cY 0, 4, .inl br9))] H := hP1
            have hD : va_D A [(m0, .inr (8, mdL AM g9)), (AM 0, .inl (cY 0, 72, .inl tb)), (AM 2, .inl (cY 0, 22, .inl (X8_fetch_w2 sA9 kp9 dp))), (AM 3, .inl (cY 0, 22, .inl rd)), (AM 4, .inl (cY 0, 110, .inl kp9)), (AM 5, .inl (cY 0, 8414, .inl td)), (AM 6, .inl (cY 0, 2, .inl wn)), (AM 13, .inl (cY 0, 4, .inl rw9)), (AM 14, .inl (cY 0, 4, .inl br9))] := hD1
            have hS := hS1
            clear hP1 hD1 hS1
            obtain ⟨z_29, ez_29⟩ : ∃ z, z = (X8_fetch_w2 sA9 kp9 dp) := ⟨_, rfl⟩
            rw [← ez_29] at hP hD
            have hsz_29 : okS z_29 := by rw [ez_29]; exact sea_fetch hmm.2.2 hsi c_13
            refine lv_aload_n hx hb dX8_search_108 rfl (lv_at hl 0 rfl) ?_
            refine lv_iload hx hb dX8_search_109 (lv_at hl 3 rfl) ?_
            refine lv_iconst (v := 0) hx hb dX8_search_111 (by decide) ?_
            have hPc := hP.sub (ws' := [(m0, .inr (8, mdL AM g9)), (AM 0, .inl (cY 0, 72, .inl tb)), (AM 2, .inl (cY 0, 22, .inl z_29)), (AM 3, .inl (cY 0, 22, .inl rd)), (AM 4, .inl (cY 0, 110, .inl kp9)), (AM 5, .inl (cY 0, 8414, .inl td)), (AM 6, .inl (cY 0, 2, .inl wn)), (AM 13, .inl (cY 0, 4, .inl rw9)), (AM 14, .inl (cY 0, 4, .inl br9))]) [0, 1, 2, 3, 4, 5, 6, 7, 8] rfl
            have hDc := hD.sub (ws' := [(m0, .inr (8, mdL AM g9)), (AM 0, .inl (cY 0, 72, .inl tb)), (AM 2, .inl (cY 0, 22, .inl z_29)), (AM 3, .inl (cY 0, 22, .inl rd)), (AM 4, .inl (cY 0, 110, .inl kp9)), (AM 5, .inl (cY 0, 8414, .inl td)), (AM 6, .inl (cY 0, 2, .inl wn)), (AM 13, .inl (cY 0, 4, .inl rw9)), (AM 14, .inl (cY 0, 4, .inl br9))]) [0, 1, 2, 3, 4, 5, 6, 7, 8] (by decide) rfl
            have hFc := va_free (wc := [(m0, .inr (8, mdL AM g9)), (AM 0, .inl (cY 0, 72, .inl tb)), (AM 2, .inl (cY 0, 22, .inl z_29)), (AM 3, .inl (cY 0, 22, .inl rd)), (AM 4, .inl (cY 0, 110, .inl kp9)), (AM 5, .inl (cY 0, 8414, .inl td)), (AM 6, .inl (cY 0, 2, .inl wn)), (AM 13, .inl (cY 0, 4, .inl rw9)), (AM 14, .inl (cY 0, 4, .inl br9))]) hD hS hA [0, 1, 2, 3, 4, 5, 6, 7, 8] rfl
            refine va_calli (va_runV (As := [.int nx, .int 0]) (rest := []) ⟨hx, hb, hml, hown, hts⟩ (c_X8_hits l dC dI cY m0 AM g9 tb z_29 rd kp9 td wn rw9 br9 nx 0 hsz_29 (by (try simp only [ez_29, ez_12, ez_11, ez_9, ez_6, ez_5, er_3, ez_2]); exact (sea_mv hcn.2 hsi c_27)) H.size) (cwV 2 hts gX8_search_X8_hits rfl rfl rfl (by decide +kernel) ⟨Nat.le_of_ble_eq_true rfl, Nat.le_of_ble_eq_true rfl⟩) ⟨blindW, va_recv hK hPc (ci := 8) (q0 := 0) rfl rfl, fun U hU hW => ⟨rfl, wPre_of hPc hK hN hDc U hU hW⟩⟩ rfl rfl hl.1 rfl (lv_room (Nat.le_of_ble_eq_true rfl)) dX8_search_112 ⟨Nat.zero_le _, Nat.zero_le _⟩) hS (fun q _ h => hFc q h) hFc (fun r_30 u t H1 locs ht hvm hw hB hz1 hk1 hS1 => ?_)
            obtain ⟨hw, hb_31⟩ := hw
            have er_30 := hw
            clear hw
            have hJ := wJoin (wr := []) (w1 := [(m0, .inr (8, mdL AM (X8_hit_run tb 0 nx (z_29 17) 60 0 (g9, z_29, 0)).2.1)), (AM 0, .inl (cY 0, 72, .inl tb)), (AM 2, .inl (cY 0, 22, .inl (X8_hit_run tb 0 nx (z_29 17) 60 0 (g9, z_29, 0)).2.2)), (AM 3, .inl (cY 0, 22, .inl rd)), (AM 4, .inl (cY 0, 110, .inl kp9)), (AM 5, .inl (cY 0, 8414, .inl td)), (AM 6, .inl (cY 0, 2, .inl wn)), (AM 13, .inl (cY 0, 4, .inl rw9)), (AM 14, .inl (cY 0, 4, .inl br9))]) (wn := [(m0, .inr (8, mdL AM (X8_hit_run tb 0 nx (z_29 17) 60 0 (g9, z_29, 0)).2.1)), (AM 0, .inl (cY 0, 72, .inl tb)), (AM 2, .inl (cY 0, 22, .inl (X8_hit_run tb 0 nx (z_29 17) 60 0 (g9, z_29, 0)).2.2)), (AM 3, .inl (cY 0, 22, .inl rd)), (AM 4, .inl (cY 0, 110, .inl kp9)), (AM 5, .inl (cY 0, 8414, .inl td)), (AM 6, .inl (cY 0, 2, .inl wn)), (AM 13, .inl (cY 0, 4, .inl rw9)), (AM 14, .inl (cY 0, 4, .inl br9))]) hP hD [0, 1, 2, 3, 4, 5, 6, 7, 8] [] rfl rfl (by decide) (by decide) hk1 hFc hB ht [0, 1, 2, 3, 4, 5, 6, 7, 8] rfl (by decide)
            clear hB hk1 hFc hPc hDc hP hD hS hz1 hvm ht t
            obtain ⟨hP1, hD1⟩ := hJ
            generalize H1 = H at hP1 hS1 ⊢
            have hP : va_P (dC, dI) vwCl [(m0, .inr (8, mdL AM (X8_hit_run tb 0 nx (z_29 17) 60 0 (g9, z_29, 0)).2.1)), (AM 0, .inl (cY 0, 72, .inl tb)), (AM 2, .inl (cY 0, 22, .inl (X8_hit_run tb 0 nx (z_29 17) 60 0 (g9, z_29, 0)).2.2)), (AM 3, .inl (cY 0, 22, .inl rd)), (AM 4, .inl (cY 0, 110, .inl kp9)), (AM 5, .inl (cY 0, 8414, .inl td)), (AM 6, .inl (cY 0, 2, .inl wn)), (AM 13, .inl (cY 0, 4, .inl rw9)), (AM 14, .inl (cY 0, 4, .inl br9))] H := hP1
            have hD : va_D A [(m0, .inr (8, mdL AM (X8_hit_run tb 0 nx (z_29 17) 60 0 (g9, z_29, 0)).2.1)), (AM 0, .inl (cY 0, 72, .inl tb)), (AM 2, .inl (cY 0, 22, .inl (X8_hit_run tb 0 nx (z_29 17) 60 0 (g9, z_29, 0)).2.2)), (AM 3, .inl (cY 0, 22, .inl rd)), (AM 4, .inl (cY 0, 110, .inl kp9)), (AM 5, .inl (cY 0, 8414, .inl td)), (AM 6, .inl (cY 0, 2, .inl wn)), (AM 13, .inl (cY 0, 4, .inl rw9)), (AM 14, .inl (cY 0, 4, .inl br9))] := hD1
            have hS := hS1
            clear hP1 hD1 hS1
            obtain ⟨z_32, ez_32⟩ : ∃ z, z = (X8_hit_run tb 0 nx (z_29 17) 60 0 (g9, z_29, 0)).2.1 := ⟨_, rfl⟩
            rw [← ez_32] at hP hD
            obtain ⟨z_33, ez_33⟩ : ∃ z, z = (X8_hit_run tb 0 nx (z_29 17) 60 0 (g9, z_29, 0)).2.2 := ⟨_, rfl⟩
            rw [← ez_33] at hP hD
            refine lv_if_eq (tgt := 148) hx hb dX8_search_115 (by decide) (fun c_34 => ?_) (fun c_34 => ?_)
            · refine lv_iinc (v := (nx + 1)) (lv' := [(5, .int (nx + 1)), (0, .ref m0), (2, .int most), (4, .int dp)]) hx hb dX8_search_148 hl (k := 3) rfl (by first | rfl | decide) (by decide) rfl (fun ls hl => ?_)
              refine lv_goto (tgt := 56) hx hb dX8_search_151 (by decide) ?_
              have e_35 : (X8_search_L56_g9 tb dp g9 kp9 most nx sA9) = z_32 := by rw [X8_search_L56_g9]; simp only [← ez_2, ← er_3, ← ez_5, ← ez_6, ← ez_9, ← ez_11, ← ez_12, ← ez_29, ← er_30, ← ez_32, ← ez_33, eq_false c_14, eq_false c_27, eq_true c_34, ↓reduceIte]
              have e_36 : (X8_search_L56_sA9 tb dp g9 kp9 most nx sA9) = z_33 := by rw [X8_search_L56_sA9]; simp only [← ez_2, ← er_3, ← ez_5, ← ez_6, ← ez_9, ← ez_11, ← ez_12, ← ez_29, ← er_30, ← ez_32, ← ez_33, eq_false c_14, eq_false c_27, ↓reduceIte]
              have e_37 : (X8_search_L56_kp9 tb dp g9 kp9 most nx sA9) = kp9 := by rw [X8_search_L56_kp9]; simp only [← ez_2, ← er_3, ← ez_5, ← ez_6, ← ez_9, ← ez_11, ← ez_12, ← ez_29, ← er_30, ← ez_32, ← ez_33, eq_false c_14, eq_false c_27, eq_true c_34, ↓reduceIte]
              have e_38 : (X8_search_L56_rw9 tb dp g9 kp9 most nx rw9 sA9) = rw9 := by rw [X8_search_L56_rw9]; simp only [← ez_2, ← er_3, ← ez_5, ← ez_6, ← ez_9, ← ez_11, ← ez_12, ← ez_29, ← er_30, ← ez_32, ← ez_33, eq_false c_14, eq_false c_27, eq_true c_34, ↓reduceIte]
              have e_39 : (X8_search_L56_br9 tb br9 dp g9 kp9 most nx rw9 sA9) = br9 := by rw [X8_search_L56_br9]; simp only [← ez_2, ← er_3, ← ez_5, ← ez_6, ← ez_9, ← ez_11, ← ez_12, ← ez_29, ← er_30, ← ez_32, ← ez_33, eq_false c_14, eq_false c_27, eq_true c_34, ↓reduceIte]
              have e_40 : (X8_search_L56_dp tb dp g9 kp9 most nx sA9) = dp := by rw [X8_search_L56_dp]; simp only [← ez_2, ← er_3, ← ez_5, ← ez_6, ← ez_9, ← ez_11, ← ez_12, ← ez_29, ← er_30, ← ez_32, ← ez_33, eq_false c_14, eq_false c_27, eq_true c_34, ↓reduceIte]
              have e_41 : (X8_search_L56_nx tb dp g9 kp9 most nx rw9 sA9) = (nx + 1) := by rw [X8_search_L56_nx]; simp only [← ez_2, ← er_3, ← ez_5, ← ez_6, ← ez_9, ← ez_11, ← ez_12, ← ez_29, ← er_30, ← ez_32, ← ez_33, eq_false c_14, eq_false c_27, eq_true c_34, ↓reduceIte]
              have hP9 : va_P (dC, dI) vwCl [(m0, .inr (8, mdL AM (X8_search_L56_g9 tb dp g9 kp9 most nx sA9))), (AM 0, .inl (cY 0, 72, .inl tb)), (AM 2, .inl (cY 0, 22, .inl (X8_search_L56_sA9 tb dp g9 kp9 most nx sA9))), (AM 3, .inl (cY 0, 22, .inl rd)), (AM 4, .inl (cY 0, 110, .inl (X8_search_L56_kp9 tb dp g9 kp9 most nx sA9))), (AM 5, .inl (cY 0, 8414, .inl td)), (AM 6, .inl (cY 0, 2, .inl wn)), (AM 13, .inl (cY 0, 4, .inl (X8_search_L56_rw9 tb dp g9 kp9 most nx rw9 sA9))), (AM 14, .inl (cY 0, 4, .inl (X8_search_L56_br9 tb br9 dp g9 kp9 most nx rw9 sA9)))] H := by simp only [e_35, e_36, e_37, e_38, e_39, e_40, e_41]; exact hP
              have hD9 : va_D A [(m0, .inr (8, mdL AM (X8_search_L56_g9 tb dp g9 kp9 most nx sA9))), (AM 0, .inl (cY 0, 72, .inl tb)), (AM 2, .inl (cY 0, 22, .inl (X8_search_L56_sA9 tb dp g9 kp9 most nx sA9))), (AM 3, .inl (cY 0, 22, .inl rd)), (AM 4, .inl (cY 0, 110, .inl (X8_search_L56_kp9 tb dp g9 kp9 most nx sA9))), (AM 5, .inl (cY 0, 8414, .inl td)), (AM 6, .inl (cY 0, 2, .inl wn)), (AM 13, .inl (cY 0, 4, .inl (X8_search_L56_rw9 tb dp g9 kp9 most nx rw9 sA9))), (AM 14, .inl (cY 0, 4, .inl (X8_search_L56_br9 tb br9 dp g9 kp9 most nx rw9 sA9)))] := by simp only [e_35, e_36, e_37, e_38, e_39, e_40, e_41]; exact hD
              have hl9 : lv_has ls 6 [(0, .ref m0), (2, .int most), (4, .int (X8_search_L56_dp tb dp g9 kp9 most nx sA9)), (5, .int (X8_search_L56_nx tb dp g9 kp9 most nx rw9 sA9))] := by (try simp only [e_35, e_36, e_37, e_38, e_39, e_40, e_41]); exact lv_sub hl [1, 2, 3, 0] rfl
              replace hk := hk ((X8_search_L56_g9 tb dp g9 kp9 most nx sA9), (X8_search_L56_sA9 tb dp g9 kp9 most nx sA9), (X8_search_L56_kp9 tb dp g9 kp9 most nx sA9), (X8_search_L56_rw9 tb dp g9 kp9 most nx rw9 sA9), (X8_search_L56_br9 tb br9 dp g9 kp9 most nx rw9 sA9), (X8_search_L56_dp tb dp g9 kp9 most nx sA9), (X8_search_L56_nx tb dp g9 kp9 most nx rw9 sA9))
              (try dsimp only at hk)
              exact hk ⟨by rw [hi.1, show 65536 - j = (65536 - (j + 1)) + 1 by omega, X8_sea_run_s]; simp only [← ez_2, ← er_3, ← ez_5, ← ez_6, ← ez_9, ← ez_11, ← ez_12, ← ez_29, ← er_30, ← ez_32, ← ez_33, eq_false c_13, ↓reduceIte], sea_step hcn.2 hmm hi.2 c_13⟩ _ _ _ hP9 hD9 hS hl9
            · refine lv_aload_n hx hb dX8_search_118 rfl (lv_at hl 0 rfl) ?_
              refine va_get (D := (dC, dI)) (ci := 8) (v := .ref (AM 13)) (C := RX8) (T := TX8) (N := 17) hx hb hts inw_X8_search_X8 hown hK hP 0 rfl rfl 13 (by decide) (hts (.fieldLink RX8 35 "DuelFramesModel" "row" "[I") (List.mem_of_getElem? (i := 3) rfl)) (fun _ h9 => h9) rfl dX8_search_119 ?_
              refine lv_iload hx hb dX8_search_122 (lv_at hl 2 rfl) ?_
              refine lv_iload hx hb dX8_search_124 (lv_at hl 3 rfl) ?_
              refine va_iast hx hb hK hP hD hS 7 0 rfl rfl (by (try simp only [ez_33, ez_32, er_30, ez_29, ez_12, ez_11, ez_9, ez_6, ez_5, er_3, ez_2]); exact (sea_d4 hmm hsi c_14)) dX8_search_126 (fun H locs hP1 hD1 hS1 => ?_)
              clear hP hD hS
              have hP : va_P (dC, dI) vwCl [(m0, .inr (8, mdL AM z_32)), (AM 0, .inl (cY 0, 72, .inl tb)), (AM 2, .inl (cY 0, 22, .inl z_33)), (AM 3, .inl (cY 0, 22, .inl rd)), (AM 4, .inl (cY 0, 110, .inl kp9)), (AM 5, .inl (cY 0, 8414, .inl td)), (AM 6, .inl (cY 0, 2, .inl wn)), (AM 13, .inl (cY 0, 4, .inl (upd rw9 dp.toNatClampNeg nx))), (AM 14, .inl (cY 0, 4, .inl br9))] H := hP1
              have hD : va_D A [(m0, .inr (8, mdL AM z_32)), (AM 0, .inl (cY 0, 72, .inl tb)), (AM 2, .inl (cY 0, 22, .inl z_33)), (AM 3, .inl (cY 0, 22, .inl rd)), (AM 4, .inl (cY 0, 110, .inl kp9)), (AM 5, .inl (cY 0, 8414, .inl td)), (AM 6, .inl (cY 0, 2, .inl wn)), (AM 13, .inl (cY 0, 4, .inl (upd rw9 dp.toNatClampNeg nx))), (AM 14, .inl (cY 0, 4, .inl br9))] := hD1
              have hS := hS1
              clear hP1 hD1 hS1
              refine lv_iinc (v := (dp + 1)) (lv' := [(4, .int (dp + 1)), (0, .ref m0), (2, .int most), (5, .int nx)]) hx hb dX8_search_127 hl (k := 2) rfl (by first | rfl | decide) (by decide) rfl (fun ls hl => ?_)
              refine lv_aload_n hx hb dX8_search_130 rfl (lv_at hl 1 rfl) ?_
              refine lv_iload hx hb dX8_search_131 (lv_at hl 0 rfl) ?_
              have hPc := hP.sub (ws' := [(m0, .inr (8, mdL AM z_32)), (AM 0, .inl (cY 0, 72, .inl tb)), (AM 2, .inl (cY 0, 22, .inl z_33)), (AM 3, .inl (cY 0, 22, .inl rd)), (AM 4, .inl (cY 0, 110, .inl kp9)), (AM 5, .inl (cY 0, 8414, .inl td)), (AM 6, .inl (cY 0, 2, .inl wn)), (AM 13, .inl (cY 0, 4, .inl (upd rw9 dp.toNatClampNeg nx))), (AM 14, .inl (cY 0, 4, .inl br9))]) [0, 1, 2, 3, 4, 5, 6, 7, 8] rfl
              have hDc := hD.sub (ws' := [(m0, .inr (8, mdL AM z_32)), (AM 0, .inl (cY 0, 72, .inl tb)), (AM 2, .inl (cY 0, 22, .inl z_33)), (AM 3, .inl (cY 0, 22, .inl rd)), (AM 4, .inl (cY 0, 110, .inl kp9)), (AM 5, .inl (cY 0, 8414, .inl td)), (AM 6, .inl (cY 0, 2, .inl wn)), (AM 13, .inl (cY 0, 4, .inl (upd rw9 dp.toNatClampNeg nx))), (AM 14, .inl (cY 0, 4, .inl br9))]) [0, 1, 2, 3, 4, 5, 6, 7, 8] (by decide) rfl
              have hFc := va_free (wc := [(m0, .inr (8, mdL AM z_32)), (AM 0, .inl (cY 0, 72, .inl tb)), (AM 2, .inl (cY 0, 22, .inl z_33)), (AM 3, .inl (cY 0, 22, .inl rd)), (AM 4, .inl (cY 0, 110, .inl kp9)), (AM 5, .inl (cY 0, 8414, .inl td)), (AM 6, .inl (cY 0, 2, .inl wn)), (AM 13, .inl (cY 0, 4, .inl (upd rw9 dp.toNatClampNeg nx))), (AM 14, .inl (cY 0, 4, .inl br9))]) hD hS hA [0, 1, 2, 3, 4, 5, 6, 7, 8] rfl
              refine va_callv (va_runV (As := [.int (dp + 1)]) (rest := []) ⟨hx, hb, hml, hown, hts⟩ (c_X8_keepState l dC dI cY m0 AM z_32 tb z_33 rd kp9 td wn (upd rw9 dp.toNatClampNeg nx) br9 (dp + 1) (by (try simp only [ez_33, ez_32, er_30, ez_29, ez_12, ez_11, ez_9, ez_6, ez_5, er_3, ez_2]); exact (sea_d6 hmm hsi c_14)) H.size) (cwV 1 hts gX8_search_X8_keepState rfl rfl rfl (by decide +kernel) ⟨Nat.le_of_ble_eq_true rfl, Nat.le_of_ble_eq_true rfl⟩) ⟨blindW, va_recv hK hPc (ci := 8) (q0 := 0) rfl rfl, fun U hU hW => ⟨rfl, wPre_of hPc hK hN hDc U hU hW⟩⟩ rfl rfl hl.1 rfl (lv_room (Nat.le_of_ble_eq_true rfl)) dX8_search_133 ⟨Nat.zero_le _, Nat.zero_le _⟩) hS (fun q _ h => hFc q h) hFc (fun u t H1 locs ht hvm hw hB hz1 hk1 hS1 => ?_)
              have hJ := wJoin (wr := []) (w1 := [(m0, .inr (8, mdL AM z_32)), (AM 0, .inl (cY 0, 72, .inl tb)), (AM 2, .inl (cY 0, 22, .inl z_33)), (AM 3, .inl (cY 0, 22, .inl rd)), (AM 4, .inl (cY 0, 110, .inl (X8_keepState_w4 z_33 kp9 (dp + 1)))), (AM 5, .inl (cY 0, 8414, .inl td)), (AM 6, .inl (cY 0, 2, .inl wn)), (AM 13, .inl (cY 0, 4, .inl (upd rw9 dp.toNatClampNeg nx))), (AM 14, .inl (cY 0, 4, .inl br9))]) (wn := [(m0, .inr (8, mdL AM z_32)), (AM 0, .inl (cY 0, 72, .inl tb)), (AM 2, .inl (cY 0, 22, .inl z_33)), (AM 3, .inl (cY 0, 22, .inl rd)), (AM 4, .inl (cY 0, 110, .inl (X8_keepState_w4 z_33 kp9 (dp + 1)))), (AM 5, .inl (cY 0, 8414, .inl td)), (AM 6, .inl (cY 0, 2, .inl wn)), (AM 13, .inl (cY 0, 4, .inl (upd rw9 dp.toNatClampNeg nx))), (AM 14, .inl (cY 0, 4, .inl br9))]) hP hD [0, 1, 2, 3, 4, 5, 6, 7, 8] [] rfl rfl (by decide) (by decide) hk1 hFc hB ht [0, 1, 2, 3, 4, 5, 6, 7, 8] rfl (by decide)
              clear hB hk1 hFc hPc hDc hP hD hS hz1 hvm ht t
              obtain ⟨hP1, hD1⟩ := hJ
              generalize H1 = H at hP1 hS1 ⊢
              have hP : va_P (dC, dI) vwCl [(m0, .inr (8, mdL AM z_32)), (AM 0, .inl (cY 0, 72, .inl tb)), (AM 2, .inl (cY 0, 22, .inl z_33)), (AM 3, .inl (cY 0, 22, .inl rd)), (AM 4, .inl (cY 0, 110, .inl (X8_keepState_w4 z_33 kp9 (dp + 1)))), (AM 5, .inl (cY 0, 8414, .inl td)), (AM 6, .inl (cY 0, 2, .inl wn)), (AM 13, .inl (cY 0, 4, .inl (upd rw9 dp.toNatClampNeg nx))), (AM 14, .inl (cY 0, 4, .inl br9))] H := hP1
              have hD : va_D A [(m0, .inr (8, mdL AM z_32)), (AM 0, .inl (cY 0, 72, .inl tb)), (AM 2, .inl (cY 0, 22, .inl z_33)), (AM 3, .inl (cY 0, 22, .inl rd)), (AM 4, .inl (cY 0, 110, .inl (X8_keepState_w4 z_33 kp9 (dp + 1)))), (AM 5, .inl (cY 0, 8414, .inl td)), (AM 6, .inl (cY 0, 2, .inl wn)), (AM 13, .inl (cY 0, 4, .inl (upd rw9 dp.toNatClampNeg nx))), (AM 14, .inl (cY 0, 4, .inl br9))] := hD1
              have hS := hS1
              clear hP1 hD1 hS1
              obtain ⟨z_43, ez_43⟩ : ∃ z, z = (X8_keepState_w4 z_33 kp9 (dp + 1)) := ⟨_, rfl⟩
              rw [← ez_43] at hP hD
              have hkz_43 := ez_43
              refine lv_aload_n hx hb dX8_search_136 rfl (lv_at hl 1 rfl) ?_
              refine lv_iload hx hb dX8_search_137 (lv_at hl 0 rfl) ?_
              have hPc := hP.sub (ws' := [(m0, .inr (8, mdL AM z_32)), (AM 0, .inl (cY 0, 72, .inl tb)), (AM 2, .inl (cY 0, 22, .inl z_33)), (AM 3, .inl (cY 0, 22, .inl rd)), (AM 4, .inl (cY 0, 110, .inl z_43)), (AM 5, .inl (cY 0, 8414, .inl td)), (AM 6, .inl (cY 0, 2, .inl wn)), (AM 13, .inl (cY 0, 4, .inl (upd rw9 dp.toNatClampNeg nx))), (AM 14, .inl (cY 0, 4, .inl br9))]) [0, 1, 2, 3, 4, 5, 6, 7, 8] rfl
              have hDc := hD.sub (ws' := [(m0, .inr (8, mdL AM z_32)), (AM 0, .inl (cY 0, 72, .inl tb)), (AM 2, .inl (cY 0, 22, .inl z_33)), (AM 3, .inl (cY 0, 22, .inl rd)), (AM 4, .inl (cY 0, 110, .inl z_43)), (AM 5, .inl (cY 0, 8414, .inl td)), (AM 6, .inl (cY 0, 2, .inl wn)), (AM 13, .inl (cY 0, 4, .inl (upd rw9 dp.toNatClampNeg nx))), (AM 14, .inl (cY 0, 4, .inl br9))]) [0, 1, 2, 3, 4, 5, 6, 7, 8] (by decide) rfl
              have hFc := va_free (wc := [(m0, .inr (8, mdL AM z_32)), (AM 0, .inl (cY 0, 72, .inl tb)), (AM 2, .inl (cY 0, 22, .inl z_33)), (AM 3, .inl (cY 0, 22, .inl rd)), (AM 4, .inl (cY 0, 110, .inl z_43)), (AM 5, .inl (cY 0, 8414, .inl td)), (AM 6, .inl (cY 0, 2, .inl wn)), (AM 13, .inl (cY 0, 4, .inl (upd rw9 dp.toNatClampNeg nx))), (AM 14, .inl (cY 0, 4, .inl br9))]) hD hS hA [0, 1, 2, 3, 4, 5, 6, 7, 8] rfl
              refine va_callv (va_runV (As := [.int (dp + 1)]) (rest := []) ⟨hx, hb, hml, hown, hts⟩ (c_X8_noteRow l dC dI cY m0 AM z_32 tb z_33 rd z_43 td wn (upd rw9 dp.toNatClampNeg nx) br9 (dp + 1) (by (try simp only [ez_43, ez_33, ez_32, er_30, ez_29, ez_12, ez_11, ez_9, ez_6, ez_5, er_3, ez_2]); exact (sea_d6 hmm hsi c_14)) H.size) (cwV 1 hts gX8_search_X8_noteRow rfl rfl rfl (by decide +kernel) ⟨Nat.le_of_ble_eq_true rfl, Nat.le_of_ble_eq_true rfl⟩) ⟨blindW, va_recv hK hPc (ci := 8) (q0 := 0) rfl rfl, fun U hU hW => ⟨rfl, wPre_of hPc hK hN hDc U hU hW⟩⟩ rfl rfl hl.1 rfl (lv_room (Nat.le_of_ble_eq_true rfl)) dX8_search_139 ⟨Nat.zero_le _, Nat.zero_le _⟩) hS (fun q _ h => hFc q h) hFc (fun u t H1 locs ht hvm hw hB hz1 hk1 hS1 => ?_)
              have hJ := wJoin (wr := []) (w1 := [(m0, .inr (8, mdL AM (X8_noteRow_w0 z_32 z_33 (dp + 1)))), (AM 0, .inl (cY 0, 72, .inl tb)), (AM 2, .inl (cY 0, 22, .inl z_33)), (AM 3, .inl (cY 0, 22, .inl rd)), (AM 4, .inl (cY 0, 110, .inl z_43)), (AM 5, .inl (cY 0, 8414, .inl td)), (AM 6, .inl (cY 0, 2, .inl wn)), (AM 13, .inl (cY 0, 4, .inl (upd rw9 dp.toNatClampNeg nx))), (AM 14, .inl (cY 0, 4, .inl (X8_noteRow_w8 z_32 z_33 (upd rw9 dp.toNatClampNeg nx) br9 (dp + 1))))]) (wn := [(m0, .inr (8, mdL AM (X8_noteRow_w0 z_32 z_33 (dp + 1)))), (AM 0, .inl (cY 0, 72, .inl tb)), (AM 2, .inl (cY 0, 22, .inl z_33)), (AM 3, .inl (cY 0, 22, .inl rd)), (AM 4, .inl (cY 0, 110, .inl z_43)), (AM 5, .inl (cY 0, 8414, .inl td)), (AM 6, .inl (cY 0, 2, .inl wn)), (AM 13, .inl (cY 0, 4, .inl (upd rw9 dp.toNatClampNeg nx))), (AM 14, .inl (cY 0, 4, .inl (X8_noteRow_w8 z_32 z_33 (upd rw9 dp.toNatClampNeg nx) br9 (dp + 1))))]) hP hD [0, 1, 2, 3, 4, 5, 6, 7, 8] [] rfl rfl (by decide) (by decide) hk1 hFc hB ht [0, 1, 2, 3, 4, 5, 6, 7, 8] rfl (by decide)
              clear hB hk1 hFc hPc hDc hP hD hS hz1 hvm ht t
              obtain ⟨hP1, hD1⟩ := hJ
              generalize H1 = H at hP1 hS1 ⊢
              have hP : va_P (dC, dI) vwCl [(m0, .inr (8, mdL AM (X8_noteRow_w0 z_32 z_33 (dp + 1)))), (AM 0, .inl (cY 0, 72, .inl tb)), (AM 2, .inl (cY 0, 22, .inl z_33)), (AM 3, .inl (cY 0, 22, .inl rd)), (AM 4, .inl (cY 0, 110, .inl z_43)), (AM 5, .inl (cY 0, 8414, .inl td)), (AM 6, .inl (cY 0, 2, .inl wn)), (AM 13, .inl (cY 0, 4, .inl (upd rw9 dp.toNatClampNeg nx))), (AM 14, .inl (cY 0, 4, .inl (X8_noteRow_w8 z_32 z_33 (upd rw9 dp.toNatClampNeg nx) br9 (dp + 1))))] H := hP1
              have hD : va_D A [(m0, .inr (8, mdL AM (X8_noteRow_w0 z_32 z_33 (dp + 1)))), (AM 0, .inl (cY 0, 72, .inl tb)), (AM 2, .inl (cY 0, 22, .inl z_33)), (AM 3, .inl (cY 0, 22, .inl rd)), (AM 4, .inl (cY 0, 110, .inl z_43)), (AM 5, .inl (cY 0, 8414, .inl td)), (AM 6, .inl (cY 0, 2, .inl wn)), (AM 13, .inl (cY 0, 4, .inl (upd rw9 dp.toNatClampNeg nx))), (AM 14, .inl (cY 0, 4, .inl (X8_noteRow_w8 z_32 z_33 (upd rw9 dp.toNatClampNeg nx) br9 (dp + 1))))] := hD1
              have hS := hS1
              clear hP1 hD1 hS1
              obtain ⟨z_45, ez_45⟩ : ∃ z, z = (X8_noteRow_w0 z_32 z_33 (dp + 1)) := ⟨_, rfl⟩
              rw [← ez_45] at hP hD
              obtain ⟨z_46, ez_46⟩ : ∃ z, z = (X8_noteRow_w8 z_32 z_33 (upd rw9 dp.toNatClampNeg nx) br9 (dp + 1)) := ⟨_, rfl⟩
              rw [← ez_46] at hP hD
              refine lv_iconst (v := 0) hx hb dX8_search_142 (by decide) ?_
              refine lv_istore (lv' := [(5, .int 0), (4, .int (dp + 1)), (0, .ref m0), (2, .int most)]) hx hb dX8_search_143 hl (by decide) rfl (fun ls hl => ?_)
              refine lv_goto (tgt := 56) hx hb dX8_search_145 (by decide) ?_
              have e_47 : (X8_search_L56_g9 tb dp g9 kp9 most nx sA9) = z_45 := by rw [X8_search_L56_g9]; simp only [← ez_2, ← er_3, ← ez_5, ← ez_6, ← ez_9, ← ez_11, ← ez_12, ← ez_29, ← er_30, ← ez_32, ← ez_33, ← ez_43, ← ez_45, ← ez_46, eq_false c_14, eq_false c_27, eq_false c_34, ↓reduceIte]
              have e_48 : (X8_search_L56_sA9 tb dp g9 kp9 most nx sA9) = z_33 := by rw [X8_search_L56_sA9]; simp only [← ez_2, ← er_3, ← ez_5, ← ez_6, ← ez_9, ← ez_11, ← ez_12, ← ez_29, ← er_30, ← ez_32, ← ez_33, ← ez_43, ← ez_45, ← ez_46, eq_false c_14, eq_false c_27, ↓reduceIte]
              have e_49 : (X8_search_L56_kp9 tb dp g9 kp9 most nx sA9) = z_43 := by rw [X8_search_L56_kp9]; simp only [← ez_2, ← er_3, ← ez_5, ← ez_6, ← ez_9, ← ez_11, ← ez_12, ← ez_29, ← er_30, ← ez_32, ← ez_33, ← ez_43, ← ez_45, ← ez_46, eq_false c_14, eq_false c_27, eq_false c_34, ↓reduceIte]
              have e_50 : (X8_search_L56_rw9 tb dp g9 kp9 most nx rw9 sA9) = (upd rw9 dp.toNatClampNeg nx) := by rw [X8_search_L56_rw9]; simp only [← ez_2, ← er_3, ← ez_5, ← ez_6, ← ez_9, ← ez_11, ← ez_12, ← ez_29, ← er_30, ← ez_32, ← ez_33, ← ez_43, ← ez_45, ← ez_46, eq_false c_14, eq_false c_27, eq_false c_34, ↓reduceIte]
              have e_51 : (X8_search_L56_br9 tb br9 dp g9 kp9 most nx rw9 sA9) = z_46 := by rw [X8_search_L56_br9]; simp only [← ez_2, ← er_3, ← ez_5, ← ez_6, ← ez_9, ← ez_11, ← ez_12, ← ez_29, ← er_30, ← ez_32, ← ez_33, ← ez_43, ← ez_45, ← ez_46, eq_false c_14, eq_false c_27, eq_false c_34, ↓reduceIte]
              have e_52 : (X8_search_L56_dp tb dp g9 kp9 most nx sA9) = (dp + 1) := by rw [X8_search_L56_dp]; simp only [← ez_2, ← er_3, ← ez_5, ← ez_6, ← ez_9, ← ez_11, ← ez_12, ← ez_29, ← er_30, ← ez_32, ← ez_33, ← ez_43, ← ez_45, ← ez_46, eq_false c_14, eq_false c_27, eq_false c_34, ↓reduceIte]
              have e_53 : (X8_search_L56_nx tb dp g9 kp9 most nx rw9 sA9) = 0 := by rw [X8_search_L56_nx]; simp only [← ez_2, ← er_3, ← ez_5, ← ez_6, ← ez_9, ← ez_11, ← ez_12, ← ez_29, ← er_30, ← ez_32, ← ez_33, ← ez_43, ← ez_45, ← ez_46, eq_false c_14, eq_false c_27, eq_false c_34, ↓reduceIte]
              have hP9 : va_P (dC, dI) vwCl [(m0, .inr (8, mdL AM (X8_search_L56_g9 tb dp g9 kp9 most nx sA9))), (AM 0, .inl (cY 0, 72, .inl tb)), (AM 2, .inl (cY 0, 22, .inl (X8_search_L56_sA9 tb dp g9 kp9 most nx sA9))), (AM 3, .inl (cY 0, 22, .inl rd)), (AM 4, .inl (cY 0, 110, .inl (X8_search_L56_kp9 tb dp g9 kp9 most nx sA9))), (AM 5, .inl (cY 0, 8414, .inl td)), (AM 6, .inl (cY 0, 2, .inl wn)), (AM 13, .inl (cY 0, 4, .inl (X8_search_L56_rw9 tb dp g9 kp9 most nx rw9 sA9))), (AM 14, .inl (cY 0, 4, .inl (X8_search_L56_br9 tb br9 dp g9 kp9 most nx rw9 sA9)))] H := by simp only [e_47, e_48, e_49, e_50, e_51, e_52, e_53]; exact hP
              have hD9 : va_D A [(m0, .inr (8, mdL AM (X8_search_L56_g9 tb dp g9 kp9 most nx sA9))), (AM 0, .inl (cY 0, 72, .inl tb)), (AM 2, .inl (cY 0, 22, .inl (X8_search_L56_sA9 tb dp g9 kp9 most nx sA9))), (AM 3, .inl (cY 0, 22, .inl rd)), (AM 4, .inl (cY 0, 110, .inl (X8_search_L56_kp9 tb dp g9 kp9 most nx sA9))), (AM 5, .inl (cY 0, 8414, .inl td)), (AM 6, .inl (cY 0, 2, .inl wn)), (AM 13, .inl (cY 0, 4, .inl (X8_search_L56_rw9 tb dp g9 kp9 most nx rw9 sA9))), (AM 14, .inl (cY 0, 4, .inl (X8_search_L56_br9 tb br9 dp g9 kp9 most nx rw9 sA9)))] := by simp only [e_47, e_48, e_49, e_50, e_51, e_52, e_53]; exact hD
              have hl9 : lv_has ls 6 [(0, .ref m0), (2, .int most), (4, .int (X8_search_L56_dp tb dp g9 kp9 most nx sA9)), (5, .int (X8_search_L56_nx tb dp g9 kp9 most nx rw9 sA9))] := by (try simp only [e_47, e_48, e_49, e_50, e_51, e_52, e_53]); exact lv_sub hl [2, 3, 1, 0] rfl
              replace hk := hk ((X8_search_L56_g9 tb dp g9 kp9 most nx sA9), (X8_search_L56_sA9 tb dp g9 kp9 most nx sA9), (X8_search_L56_kp9 tb dp g9 kp9 most nx sA9), (X8_search_L56_rw9 tb dp g9 kp9 most nx rw9 sA9), (X8_search_L56_br9 tb br9 dp g9 kp9 most nx rw9 sA9), (X8_search_L56_dp tb dp g9 kp9 most nx sA9), (X8_search_L56_nx tb dp g9 kp9 most nx rw9 sA9))
              (try dsimp only at hk)
              exact hk ⟨by rw [hi.1, show 65536 - j = (65536 - (j + 1)) + 1 by omega, X8_sea_run_s]; simp only [← ez_2, ← er_3, ← ez_5, ← ez_6, ← ez_9, ← ez_11, ← ez_12, ← ez_29, ← er_30, ← ez_32, ← ez_33, ← ez_43, ← ez_45, ← ez_46, eq_false c_13, ↓reduceIte], sea_step hcn.2 hmm hi.2 c_13⟩ _ _ _ hP9 hD9 hS hl9
          · refine lv_iinc (v := (dp + (-1))) (lv' := [(4, .int (dp + (-1))), (0, .ref m0), (2, .int most), (5, .int nx)]) hx hb dX8_search_76 hl (k := 2) rfl (by first | rfl | decide) (by decide) rfl (fun ls hl => ?_)
            refine lv_iload hx hb dX8_search_79 (lv_at hl 0 rfl) ?_
            refine jnW (D := (dC, dI)) (ws := [(m0, .inr (8, mdL AM g9)), (AM 0, .inl (cY 0, 72, .inl tb)), (AM 2, .inl (cY 0, 22, .inl sA9)), (AM 3, .inl (cY 0, 22, .inl rd)), (AM 4, .inl (cY 0, 110, .inl kp9)), (AM 5, .inl (cY 0, 8414, .inl td)), (AM 6, .inl (cY 0, 2, .inl wn)), (AM 13, .inl (cY 0, 4, .inl rw9)), (AM 14, .inl (cY 0, 4, .inl br9))]) (lv := [(4, .int (dp + (-1))), (0, .ref m0), (2, .int most)]) (st := [.int (X8_search_j97 dp rw9)]) (J := 97) (n := 6) (A := A) (H0 := s.heap) ?_ ?_
            · intro H locs ls hP hD hS hl
              refine lv_istore (lv' := [(5, .int (X8_search_j97 dp rw9)), (4, .int (dp + (-1))), (0, .ref m0), (2, .int most)]) hx hb dX8_search_97 hl (by decide) rfl (fun ls hl => ?_)
              refine lv_goto (tgt := 56) hx hb dX8_search_99 (by decide) ?_
              have e_56 : (X8_search_L56_g9 tb dp g9 kp9 most nx sA9) = g9 := by rw [X8_search_L56_g9]; simp only [← ez_2, ← er_3, ← ez_5, ← ez_6, ← ez_9, ← ez_11, ← ez_12, eq_false c_14, eq_true c_27, ↓reduceIte]
              have e_57 : (X8_search_L56_sA9 tb dp g9 kp9 most nx sA9) = sA9 := by rw [X8_search_L56_sA9]; simp only [← ez_2, ← er_3, ← ez_5, ← ez_6, ← ez_9, ← ez_11, ← ez_12, eq_false c_14, eq_true c_27, ↓reduceIte]
              have e_58 : (X8_search_L56_kp9 tb dp g9 kp9 most nx sA9) = kp9 := by rw [X8_search_L56_kp9]; simp only [← ez_2, ← er_3, ← ez_5, ← ez_6, ← ez_9, ← ez_11, ← ez_12, eq_false c_14, eq_true c_27, ↓reduceIte]
              have e_59 : (X8_search_L56_rw9 tb dp g9 kp9 most nx rw9 sA9) = rw9 := by rw [X8_search_L56_rw9]; simp only [← ez_2, ← er_3, ← ez_5, ← ez_6, ← ez_9, ← ez_11, ← ez_12, eq_false c_14, eq_true c_27, ↓reduceIte]
              have e_60 : (X8_search_L56_br9 tb br9 dp g9 kp9 most nx rw9 sA9) = br9 := by rw [X8_search_L56_br9]; simp only [← ez_2, ← er_3, ← ez_5, ← ez_6, ← ez_9, ← ez_11, ← ez_12, eq_false c_14, eq_true c_27, ↓reduceIte]
              have e_61 : (X8_search_L56_dp tb dp g9 kp9 most nx sA9) = (dp + (-1)) := by rw [X8_search_L56_dp]; simp only [← ez_2, ← er_3, ← ez_5, ← ez_6, ← ez_9, ← ez_11, ← ez_12, eq_false c_14, eq_true c_27, ↓reduceIte]
              have e_62 : (X8_search_L56_nx tb dp g9 kp9 most nx rw9 sA9) = (X8_search_j97 dp rw9) := by rw [X8_search_L56_nx]; simp only [← ez_2, ← er_3, ← ez_5, ← ez_6, ← ez_9, ← ez_11, ← ez_12, eq_false c_14, eq_true c_27, ↓reduceIte]
              have hP9 : va_P (dC, dI) vwCl [(m0, .inr (8, mdL AM (X8_search_L56_g9 tb dp g9 kp9 most nx sA9))), (AM 0, .inl (cY 0, 72, .inl tb)), (AM 2, .inl (cY 0, 22, .inl (X8_search_L56_sA9 tb dp g9 kp9 most nx sA9))), (AM 3, .inl (cY 0, 22, .inl rd)), (AM 4, .inl (cY 0, 110, .inl (X8_search_L56_kp9 tb dp g9 kp9 most nx sA9))), (AM 5, .inl (cY 0, 8414, .inl td)), (AM 6, .inl (cY 0, 2, .inl wn)), (AM 13, .inl (cY 0, 4, .inl (X8_search_L56_rw9 tb dp g9 kp9 most nx rw9 sA9))), (AM 14, .inl (cY 0, 4, .inl (X8_search_L56_br9 tb br9 dp g9 kp9 most nx rw9 sA9)))] H := by simp only [e_56, e_57, e_58, e_59, e_60, e_61, e_62]; exact hP
              have hD9 : va_D A [(m0, .inr (8, mdL AM (X8_search_L56_g9 tb dp g9 kp9 most nx sA9))), (AM 0, .inl (cY 0, 72, .inl tb)), (AM 2, .inl (cY 0, 22, .inl (X8_search_L56_sA9 tb dp g9 kp9 most nx sA9))), (AM 3, .inl (cY 0, 22, .inl rd)), (AM 4, .inl (cY 0, 110, .inl (X8_search_L56_kp9 tb dp g9 kp9 most nx sA9))), (AM 5, .inl (cY 0, 8414, .inl td)), (AM 6, .inl (cY 0, 2, .inl wn)), (AM 13, .inl (cY 0, 4, .inl (X8_search_L56_rw9 tb dp g9 kp9 most nx rw9 sA9))), (AM 14, .inl (cY 0, 4, .inl (X8_search_L56_br9 tb br9 dp g9 kp9 most nx rw9 sA9)))] := by simp only [e_56, e_57, e_58, e_59, e_60, e_61, e_62]; exact hD
              have hl9 : lv_has ls 6 [(0, .ref m0), (2, .int most), (4, .int (X8_search_L56_dp tb dp g9 kp9 most nx sA9)), (5, .int (X8_search_L56_nx tb dp g9 kp9 most nx rw9 sA9))] := by (try simp only [e_56, e_57, e_58, e_59, e_60, e_61, e_62]); exact lv_sub hl [2, 3, 1, 0] rfl
              replace hk := hk ((X8_search_L56_g9 tb dp g9 kp9 most nx sA9), (X8_search_L56_sA9 tb dp g9 kp9 most nx sA9), (X8_search_L56_kp9 tb dp g9 kp9 most nx sA9), (X8_search_L56_rw9 tb dp g9 kp9 most nx rw9 sA9), (X8_search_L56_br9 tb br9 dp g9 kp9 most nx rw9 sA9), (X8_search_L56_dp tb dp g9 kp9 most nx sA9), (X8_search_L56_nx tb dp g9 kp9 most nx rw9 sA9))
              (try dsimp only at hk)
              exact hk ⟨by rw [hi.1, show 65536 - j = (65536 - (j + 1)) + 1 by omega, X8_sea_run_s]; simp only [← ez_2, ← er_3, ← ez_5, ← ez_6, ← ez_9, ← ez_11, ← ez_12, eq_false c_13, ↓reduceIte], sea_step hcn.2 hmm hi.2 c_13⟩ _ _ _ hP9 hD9 hS hl9
            · intro jn_55
              refine lv_if_le (tgt := 96) hx hb dX8_search_81 (by decide) (fun c_54 => ?_) (fun c_54 => ?_)
              · refine lv_iconst (v := 0) hx hb dX8_search_96 (by decide) ?_
                have e_63 : (X8_search_j97 dp rw9) = 0 := by rw [X8_search_j97]; simp only [← ez_2, ← er_3, ← ez_5, ← ez_6, ← ez_9, ← ez_11, ← ez_12, eq_true c_54, ↓reduceIte]
                refine W.eq (g2 := F0 m 97 ls [.int (X8_search_j97 dp rw9)]) (by simp only [e_63]) ?_
                exact jn_55 _ _ _ (by (try simp only [e_63]); exact hP) (by (try simp only [e_63]); exact hD) hS (by (try simp only [e_63]); exact (lv_sub hl [0, 1, 2] rfl))
              · refine lv_aload_n hx hb dX8_search_84 rfl (lv_at hl 1 rfl) ?_
                refine va_get (D := (dC, dI)) (ci := 8) (v := .ref (AM 13)) (C := RX8) (T := TX8) (N := 17) hx hb hts inw_X8_search_X8 hown hK hP 0 rfl rfl 13 (by decide) (hts (.fieldLink RX8 35 "DuelFramesModel" "row" "[I") (List.mem_of_getElem? (i := 3) rfl)) (fun _ h9 => h9) rfl dX8_search_85 ?_
                refine lv_iload hx hb dX8_search_88 (lv_at hl 0 rfl) ?_
                refine va_iald hx hb hK hP 7 0 rfl rfl (by (try simp only [ez_12, ez_11, ez_9, ez_6, ez_5, er_3, ez_2]); exact (sea_d3 hmm.2.2 hsi c_13)) dX8_search_90 ?_
                refine lv_topi (fun x_64 ex_64 => ?_)
                obtain rfl : x_64 = (rw9 (dp + (-1)).toNatClampNeg) := ex_64
                refine lv_iconst (v := 1) hx hb dX8_search_91 (by decide) ?_
                refine lv_iadd hx hb dX8_search_92 ?_
                refine lv_goto (tgt := 97) hx hb dX8_search_93 (by decide) ?_
                have e_65 : (X8_search_j97 dp rw9) = ((rw9 (dp + (-1)).toNatClampNeg) + 1) := by rw [X8_search_j97]; simp only [← ez_2, ← er_3, ← ez_5, ← ez_6, ← ez_9, ← ez_11, ← ez_12, eq_false c_54, ↓reduceIte]
                refine W.eq (g2 := F0 m 97 ls [.int (X8_search_j97 dp rw9)]) (by simp only [e_65]) ?_
                exact jn_55 _ _ _ (by (try simp only [e_65]); exact hP) (by (try simp only [e_65]); exact hD) hS (by (try simp only [e_65]); exact (lv_sub hl [0, 1, 2] rfl))
    · exact fun x hi => (sea_end hi.2).elim
  · have eo_66 : (X8_search_w0 g tb sA kp rw br meter most move) = z_5 := by rw [X8_search_w0]; simp only [← ez_2, ← er_3, ← ez_5, ← ez_6, eq_true c_7, ↓reduceIte]
    have eo_67 : (X8_search_w2 g tb sA kp rw br meter most move) = z_6 := by rw [X8_search_w2]; simp only [← ez_2, ← er_3, ← ez_5, ← ez_6, eq_true c_7, ↓reduceIte]
    have eo_68 : (X8_search_w4 g tb sA kp rw br meter most move) = kp := by rw [X8_search_w4]; simp only [← ez_2, ← er_3, ← ez_5, ← ez_6, eq_true c_7, ↓reduceIte]
    have eo_69 : (X8_search_w7 g tb sA kp rw br meter most move) = rw := by rw [X8_search_w7]; simp only [← ez_2, ← er_3, ← ez_5, ← ez_6, eq_true c_7, ↓reduceIte]
    have eo_70 : (X8_search_w8 g tb sA kp rw br meter most move) = br := by rw [X8_search_w8]; simp only [← ez_2, ← er_3, ← ez_5, ← ez_6, eq_true c_7, ↓reduceIte]
    have hP9 : va_P (dC, dI) vwCl [(m0, .inr (8, mdL AM (X8_search_w0 g tb sA kp rw br meter most move))), (AM 0, .inl (cY 0, 72, .inl tb)), (AM 2, .inl (cY 0, 22, .inl (X8_search_w2 g tb sA kp rw br meter most move))), (AM 3, .inl (cY 0, 22, .inl rd)), (AM 4, .inl (cY 0, 110, .inl (X8_search_w4 g tb sA kp rw br meter most move))), (AM 5, .inl (cY 0, 8414, .inl td)), (AM 6, .inl (cY 0, 2, .inl wn)), (AM 13, .inl (cY 0, 4, .inl (X8_search_w7 g tb sA kp rw br meter most move))), (AM 14, .inl (cY 0, 4, .inl (X8_search_w8 g tb sA kp rw br meter most move)))] H := by simp only [eo_66, eo_67, eo_68, eo_69, eo_70]; exact hP
    have hD9 : va_D A [(m0, .inr (8, mdL AM (X8_search_w0 g tb sA kp rw br meter most move))), (AM 0, .inl (cY 0, 72, .inl tb)), (AM 2, .inl (cY 0, 22, .inl (X8_search_w2 g tb sA kp rw br meter most move))), (AM 3, .inl (cY 0, 22, .inl rd)), (AM 4, .inl (cY 0, 110, .inl (X8_search_w4 g tb sA kp rw br meter most move))), (AM 5, .inl (cY 0, 8414, .inl td)), (AM 6, .inl (cY 0, 2, .inl wn)), (AM 13, .inl (cY 0, 4, .inl (X8_search_w7 g tb sA kp rw br meter most move))), (AM 14, .inl (cY 0, 4, .inl (X8_search_w8 g tb sA kp rw br meter most move)))] := by simp only [eo_66, eo_67, eo_68, eo_69, eo_70]; exact hD
    exact W.vret hx hb hr (fun t ht hW => ⟨⟨(), rfl, trivial, wPost_of hP9 hD9 ht⟩, hS.F ht⟩) hS.2.2 dX8_search_32
theorem search_15 {cnt m : Nat} {g tb sA kp rw br : Nat → Int32} {meter most move : Int32} (hm : okM move) (hcn : g 1 = nI cnt ∧ cnt ≤ 6) (hmm : most = nI m ∧ 1 ≤ m ∧ m ≤ 4) : ∃ b, b ≤ 4 ∧ X8_search_w0 g tb sA kp rw br meter most move 15 = nI b := by
  unfold X8_search_w0
  have o1 := okS_hit (tb := tb) (isF := 1) (c := X8_lay_w2 sA meter 310 100 290 17) hm 60 0 (upd (upd g 15 0) 16 0) (X8_lay_w2 sA meter 310 100 290) 0 okS_lay
  have o2 := hit_g (tb := tb) (isF := 1) (c := X8_lay_w2 sA meter 310 100 290 17) (move := move) (k := 1) (by decide) 60 0 (upd (upd g 15 0) 16 0) (X8_lay_w2 sA meter 310 100 290) 0
  have o15 := hit_g (tb := tb) (isF := 1) (c := X8_lay_w2 sA meter 310 100 290 17) (move := move) (k := 15) (by decide) 60 0 (upd (upd g 15 0) 16 0) (X8_lay_w2 sA meter 310 100 290) 0
  generalize X8_hit_run tb 1 move (X8_lay_w2 sA meter 310 100 290 17) 60 0 (upd (upd g 15 0) 16 0, X8_lay_w2 sA meter 310 100 290, 0) = H at o1 o2 o15 ⊢
  by_cases c : H.1 = 0
  · rw [if_pos c]
    exact ⟨0, by decide, o15⟩
  · rw [if_neg c]
    obtain ⟨j', h⟩ := sea_fin (tb := tb) hcn.2 hmm 65536 0 (X8_noteRow_w0 H.2.1 H.2.2 1) H.2.2 (X8_keepState_w4 H.2.2 kp 1) (upd rw 0 move) (X8_noteRow_w8 H.2.1 H.2.2 (upd rw 0 move) br 1) 1 0 (sea_init hmm.2.1 (by rw [note_g (by decide) (by decide), o2]; exact hcn.1) (note_15 (many := 1) (by decide) ⟨0, by decide, o15⟩) (sea_keep1 o1))
    obtain ⟨-, -, -, -, -, -, -, -, -, -, hb⟩ := h
    exact hb
