theorem inw_X8_play_X8 : ∀ w ∈ u_ws RX8 TX8 17, w ∈ wsX8_play := fun _ h => List.mem_cons_of_mem _ (List.mem_append_right _ h)
def X8_play_L58_g9 (tb : Nat → Int32) (g9 : Nat → Int32) (one : Int32) (sA9 : Nat → Int32) (two : Int32) (wn9 : Nat → Int32) : Nat → Int32 := (if ((X8_frame_w2 tb sA9 one two) 1) ≤ 0 then (X8_endRound_w0 (upd (X8_frame_w0 g9 tb sA9 one two) 7 (((X8_frame_w0 g9 tb sA9 one two) 7) + 1)) (X8_frame_w2 tb sA9 one two) wn9) else (if ((X8_frame_w2 tb sA9 one two) 12) ≤ 0 then (X8_endRound_w0 (upd (X8_frame_w0 g9 tb sA9 one two) 7 (((X8_frame_w0 g9 tb sA9 one two) 7) + 1)) (X8_frame_w2 tb sA9 one two) wn9) else (if (((X8_frame_w0 g9 tb sA9 one two) 7) + 1) = 600 then (X8_endRound_w0 (upd (X8_frame_w0 g9 tb sA9 one two) 7 (((X8_frame_w0 g9 tb sA9 one two) 7) + 1)) (X8_frame_w2 tb sA9 one two) wn9) else (upd (X8_frame_w0 g9 tb sA9 one two) 7 (((X8_frame_w0 g9 tb sA9 one two) 7) + 1)))))
def X8_play_L58_wn9 (tb : Nat → Int32) (g9 : Nat → Int32) (one : Int32) (sA9 : Nat → Int32) (two : Int32) (wn9 : Nat → Int32) : Nat → Int32 := (if ((X8_frame_w2 tb sA9 one two) 1) ≤ 0 then (X8_endRound_w6 (X8_frame_w2 tb sA9 one two) wn9) else (if ((X8_frame_w2 tb sA9 one two) 12) ≤ 0 then (X8_endRound_w6 (X8_frame_w2 tb sA9 one two) wn9) else (if (((X8_frame_w0 g9 tb sA9 one two) 7) + 1) = 600 then (X8_endRound_w6 (X8_frame_w2 tb sA9 one two) wn9) else wn9)))
def X8_ply_run (tb : Nat → Int32) (one : Int32) (two : Int32) (many : Int32) : Nat → Nat → (Nat → Int32) × (Nat → Int32) × (Nat → Int32) × (Nat → Int32) × (Nat → Int32) → (Nat → Int32) × (Nat → Int32) × (Nat → Int32) × (Nat → Int32) × (Nat → Int32)
  | 0, _, (g9, sA9, rd9, td9, wn9) => (g9, sA9, rd9, td9, wn9)
  | n + 1, j, (g9, sA9, rd9, td9, wn9) => if many ≤ (nI j) then (g9, sA9, rd9, td9, wn9) else if (g9 9) = 0 then (g9, sA9, rd9, td9, wn9) else X8_ply_run tb one two many n (j + 1) ((X8_play_L58_g9 tb g9 one sA9 two wn9), (X8_frame_w2 tb sA9 one two), (X8_store_w3 (X8_frame_w2 tb sA9 one two) rd9), (X8_store_w5 (upd (X8_frame_w0 g9 tb sA9 one two) 7 (((X8_frame_w0 g9 tb sA9 one two) 7) + 1)) (X8_frame_w2 tb sA9 one two) td9), (X8_play_L58_wn9 tb g9 one sA9 two wn9))
theorem X8_ply_run_s (tb : Nat → Int32) (one : Int32) (two : Int32) (many : Int32) (n j : Nat) (g9 : Nat → Int32) (sA9 : Nat → Int32) (rd9 : Nat → Int32) (td9 : Nat → Int32) (wn9 : Nat → Int32) : X8_ply_run tb one two many (n + 1) j (g9, sA9, rd9, td9, wn9) = if many ≤ (nI j) then (g9, sA9, rd9, td9, wn9) else if (g9 9) = 0 then (g9, sA9, rd9, td9, wn9) else X8_ply_run tb one two many n (j + 1) ((X8_play_L58_g9 tb g9 one sA9 two wn9), (X8_frame_w2 tb sA9 one two), (X8_store_w3 (X8_frame_w2 tb sA9 one two) rd9), (X8_store_w5 (upd (X8_frame_w0 g9 tb sA9 one two) 7 (((X8_frame_w0 g9 tb sA9 one two) 7) + 1)) (X8_frame_w2 tb sA9 one two) td9), (X8_play_L58_wn9 tb g9 one sA9 two wn9)) := rfl
def X8_play_r (g : Nat → Int32) (tb : Nat → Int32) (sA : Nat → Int32) (rd : Nat → Int32) (td : Nat → Int32) (wn : Nat → Int32) (many : Int32) (one : Int32) (two : Int32) : Int32 := (if (X8_in_r 60 1 many) = 0 then 0 else (if (X8_isInput_r g one) = 0 then 0 else (if (X8_isInput_r g two) = 0 then 0 else (if (g 9) = 0 then 0 else ((X8_ply_run tb one two many 60 0 ((upd g 12 0), (X8_load_w2 sA rd), rd, td, wn)).1 7)))))
def X8_play_w0 (g : Nat → Int32) (tb : Nat → Int32) (sA : Nat → Int32) (rd : Nat → Int32) (td : Nat → Int32) (wn : Nat → Int32) (many : Int32) (one : Int32) (two : Int32) : Nat → Int32 := (if (X8_in_r 60 1 many) = 0 then (upd g 12 1) else (if (X8_isInput_r g one) = 0 then (upd g 12 1) else (if (X8_isInput_r g two) = 0 then (upd g 12 1) else (if (g 9) = 0 then (upd g 12 2) else (X8_ply_run tb one two many 60 0 ((upd g 12 0), (X8_load_w2 sA rd), rd, td, wn)).1))))
def X8_play_w2 (g : Nat → Int32) (tb : Nat → Int32) (sA : Nat → Int32) (rd : Nat → Int32) (td : Nat → Int32) (wn : Nat → Int32) (many : Int32) (one : Int32) (two : Int32) : Nat → Int32 := (if (X8_in_r 60 1 many) = 0 then sA else (if (X8_isInput_r g one) = 0 then sA else (if (X8_isInput_r g two) = 0 then sA else (if (g 9) = 0 then sA else (X8_ply_run tb one two many 60 0 ((upd g 12 0), (X8_load_w2 sA rd), rd, td, wn)).2.1))))
def X8_play_w3 (g : Nat → Int32) (tb : Nat → Int32) (sA : Nat → Int32) (rd : Nat → Int32) (td : Nat → Int32) (wn : Nat → Int32) (many : Int32) (one : Int32) (two : Int32) : Nat → Int32 := (if (X8_in_r 60 1 many) = 0 then rd else (if (X8_isInput_r g one) = 0 then rd else (if (X8_isInput_r g two) = 0 then rd else (if (g 9) = 0 then rd else (X8_ply_run tb one two many 60 0 ((upd g 12 0), (X8_load_w2 sA rd), rd, td, wn)).2.2.1))))
def X8_play_w5 (g : Nat → Int32) (tb : Nat → Int32) (sA : Nat → Int32) (rd : Nat → Int32) (td : Nat → Int32) (wn : Nat → Int32) (many : Int32) (one : Int32) (two : Int32) : Nat → Int32 := (if (X8_in_r 60 1 many) = 0 then td else (if (X8_isInput_r g one) = 0 then td else (if (X8_isInput_r g two) = 0 then td else (if (g 9) = 0 then td else (X8_ply_run tb one two many 60 0 ((upd g 12 0), (X8_load_w2 sA rd), rd, td, wn)).2.2.2.1))))
def X8_play_w6 (g : Nat → Int32) (tb : Nat → Int32) (sA : Nat → Int32) (rd : Nat → Int32) (td : Nat → Int32) (wn : Nat → Int32) (many : Int32) (one : Int32) (two : Int32) : Nat → Int32 := (if (X8_in_r 60 1 many) = 0 then wn else (if (X8_isInput_r g one) = 0 then wn else (if (X8_isInput_r g two) = 0 then wn else (if (g 9) = 0 then wn else (X8_ply_run tb one two many 60 0 ((upd g 12 0), (X8_load_w2 sA rd), rd, td, wn)).2.2.2.2))))
set_option maxHeartbeats 4000000 in
set_option maxRecDepth 100000 in
theorem c_X8_play (l : Launch) (dC : Nat → ClassId) (dI : Nat → Nat → Nat) (cY : Nat → ClassId) (m0 : Nat) (AM : Nat → Nat) (g : Nat → Int32) (tb : Nat → Int32) (sA : Nat → Int32) (rd : Nat → Int32) (kp : Nat → Int32) (td : Nat → Int32) (wn : Nat → Int32) (rw : Nat → Int32) (br : Nat → Int32) (many : Int32) (one : Int32) (two : Int32) (hmv : vp_in (g 1) 7) (hgo : ¬ g 9 = 0 → vp_in (g 7) 600) (hrd : okS rd) (sz : Nat) : Met l yX8_play wsX8_play ({ frames := 4, cells := 0, slots := 0, locals := 108 } : Room) (va_Pc [.ref m0, .int many, .int one, .int two] (wPre (dC, dI) (tyL cY) [(m0, .inr (8, mdL AM g)), (AM 0, .inl (cY 0, 72, .inl tb)), (AM 2, .inl (cY 0, 22, .inl sA)), (AM 3, .inl (cY 0, 22, .inl rd)), (AM 4, .inl (cY 0, 110, .inl kp)), (AM 5, .inl (cY 0, 8414, .inl td)), (AM 6, .inl (cY 0, 2, .inl wn)), (AM 13, .inl (cY 0, 4, .inl rw)), (AM 14, .inl (cY 0, 4, .inl br))] sz)) (va_Qi (fun (r : Int32) (_ : Unit) => r = (X8_play_r g tb sA rd td wn many one two)) (wPost (dC, dI) [(m0, .inr (8, mdL AM (X8_play_w0 g tb sA rd td wn many one two))), (AM 0, .inl (cY 0, 72, .inl tb)), (AM 2, .inl (cY 0, 22, .inl (X8_play_w2 g tb sA rd td wn many one two))), (AM 3, .inl (cY 0, 22, .inl (X8_play_w3 g tb sA rd td wn many one two))), (AM 4, .inl (cY 0, 110, .inl kp)), (AM 5, .inl (cY 0, 8414, .inl (X8_play_w5 g tb sA rd td wn many one two))), (AM 6, .inl (cY 0, 2, .inl (X8_play_w6 g tb sA rd td wn many one two))), (AM 13, .inl (cY 0, 4, .inl rw)), (AM 14, .inl (cY 0, 4, .inl br))] (va_A [(m0, .inr (8, mdL AM g)), (AM 0, .inl (cY 0, 72, .inl tb)), (AM 2, .inl (cY 0, 22, .inl sA)), (AM 3, .inl (cY 0, 22, .inl rd)), (AM 4, .inl (cY 0, 110, .inl kp)), (AM 5, .inl (cY 0, 8414, .inl td)), (AM 6, .inl (cY 0, 2, .inl wn)), (AM 13, .inl (cY 0, 4, .inl rw)), (AM 14, .inl (cY 0, 4, .inl br))] sz)) (va_A [(m0, .inr (8, mdL AM g)), (AM 0, .inl (cY 0, 72, .inl tb)), (AM 2, .inl (cY 0, 22, .inl sA)), (AM 3, .inl (cY 0, 22, .inl rd)), (AM 4, .inl (cY 0, 110, .inl kp)), (AM 5, .inl (cY 0, 8414, .inl td)), (AM 6, .inl (cY 0, 2, .inl wn)), (AM 13, .inl (cY 0, 4, .inl rw)), (AM 14, .inl (cY 0, 4, .inl br))] sz)) 0 0 (va_A [(m0, .inr (8, mdL AM g)), (AM 0, .inl (cY 0, 72, .inl tb)), (AM 2, .inl (cY 0, 22, .inl sA)), (AM 3, .inl (cY 0, 22, .inl rd)), (AM 4, .inl (cY 0, 110, .inl kp)), (AM 5, .inl (cY 0, 8414, .inl td)), (AM 6, .inl (cY 0, 2, .inl wn)), (AM 13, .inl (cY 0, 4, .inl rw)), (AM 14, .inl (cY 0, 4, .inl br))] sz) := by
  refine Met.ofW (cc := cX8_play) (maxL := 5) (ret := (some .int)) (by decide) rfl ?_
  intro p e s m args below meth c s₁ B hml hv
  obtain ⟨rfl, hsz, hP, hK, hN, hD0⟩ := hv
  have hx := B.exec
  have hb := B.bytes
  have hr := B.returns
  have hts := atoms_spec (ws := wsX8_play) B.pre
  have hown : s.vm.findClass RX8 = some m.cls := findClass_of_methodNamed B.named
  have hlocks := B.notSynchronized
  subst hsz
  have hD := hD0.self (sz := s.heap.size)
  generalize hAe : va_A [(m0, .inr (8, mdL AM g)), (AM 0, .inl (cY 0, 72, .inl tb)), (AM 2, .inl (cY 0, 22, .inl sA)), (AM 3, .inl (cY 0, 22, .inl rd)), (AM 4, .inl (cY 0, 110, .inl kp)), (AM 5, .inl (cY 0, 8414, .inl td)), (AM 6, .inl (cY 0, 2, .inl wn)), (AM 13, .inl (cY 0, 4, .inl rw)), (AM 14, .inl (cY 0, 4, .inl br))] s.heap.size = A at hD ⊢
  have hA : ∀ q : Nat, s.heap.size ≤ q → A q := fun q h => by rw [← hAe]; exact Or.inr h
  have hS : va_S A s.heap s.heap [] := va_S.rf
  have hP : va_P (dC, dI) vwCl [(m0, .inr (8, mdL AM g)), (AM 0, .inl (cY 0, 72, .inl tb)), (AM 2, .inl (cY 0, 22, .inl sA)), (AM 3, .inl (cY 0, 22, .inl rd)), (AM 4, .inl (cY 0, 110, .inl kp)), (AM 5, .inl (cY 0, 8414, .inl td)), (AM 6, .inl (cY 0, 2, .inl wn)), (AM 13, .inl (cY 0, 4, .inl rw)), (AM 14, .inl (cY 0, 4, .inl br))] s.heap := hP
  have hl := lv_entry ([.ref m0, .int many, .int one, .int two]) (n := 5) (Nat.le_of_ble_eq_true rfl)
  rw [lg_entry_eq]
  generalize (lg_sl ([.ref m0, .int many, .int one, .int two]) ++ List.replicate (5 - (lg_sl ([.ref m0, .int many, .int one, .int two])).length) Slot.unset).toArray = ls at hl ⊢
  have hl : lv_has ls 5 [(0, .ref m0), (1, .int many), (2, .int one), (3, .int two)] := hl
  refine lv_aload_n hx hb dX8_play_0 rfl (lv_at hl 0 rfl) ?_
  refine lv_iload_n hx hb dX8_play_1 rfl (lv_at hl 1 rfl) ?_
  refine lv_iconst (v := 1) hx hb dX8_play_2 (by decide) ?_
  refine lv_bipush (v := 60) hx hb dX8_play_3 (by decide) ?_
  have hPc := hP.sub (ws' := []) [] rfl
  refine vp_callSi (W.runS (As := [.int many, .int 1, .int 60]) (rest := [.ref m0]) ⟨hx, hb, hml, hown, hts⟩ (c_X8_in l dC dI cY many 1 60) (va_cwS 3 hts gX8_play_X8_in rfl rfl rfl (by decide +kernel) ⟨Nat.le_of_ble_eq_true rfl, Nat.le_of_ble_eq_true rfl⟩) ⟨blindR, fun U hU hW => ⟨rfl, rPre_of hPc hK hN U hU hW⟩⟩ rfl rfl hl.1 rfl (lv_room (Nat.le_of_ble_eq_true rfl)) dX8_play_5 ⟨Nat.zero_le _, Nat.zero_le _⟩) (fun r_1 hw => ?_)
  obtain ⟨hw, hb_2⟩ := hw
  subst hw
  refine lv_if_eq (tgt := 27) hx hb dX8_play_8 (by decide) (fun c_3 => ?_) (fun c_3 => ?_)
  · refine lv_iconst (v := 1) hx hb dX8_play_27 (by decide) ?_
    refine lv_goto (tgt := 43) hx hb dX8_play_28 (by decide) ?_
    have hPc := hP.sub (ws' := [(m0, .inr (8, mdL AM g)), (AM 0, .inl (cY 0, 72, .inl tb)), (AM 2, .inl (cY 0, 22, .inl sA)), (AM 3, .inl (cY 0, 22, .inl rd)), (AM 4, .inl (cY 0, 110, .inl kp)), (AM 5, .inl (cY 0, 8414, .inl td)), (AM 6, .inl (cY 0, 2, .inl wn)), (AM 13, .inl (cY 0, 4, .inl rw)), (AM 14, .inl (cY 0, 4, .inl br))]) [0, 1, 2, 3, 4, 5, 6, 7, 8] rfl
    have hDc := hD.sub (ws' := [(m0, .inr (8, mdL AM g)), (AM 0, .inl (cY 0, 72, .inl tb)), (AM 2, .inl (cY 0, 22, .inl sA)), (AM 3, .inl (cY 0, 22, .inl rd)), (AM 4, .inl (cY 0, 110, .inl kp)), (AM 5, .inl (cY 0, 8414, .inl td)), (AM 6, .inl (cY 0, 2, .inl wn)), (AM 13, .inl (cY 0, 4, .inl rw)), (AM 14, .inl (cY 0, 4, .inl br))]) [0, 1, 2, 3, 4, 5, 6, 7, 8] (by decide) rfl
    have hFc := va_free (wc := [(m0, .inr (8, mdL AM g)), (AM 0, .inl (cY 0, 72, .inl tb)), (AM 2, .inl (cY 0, 22, .inl sA)), (AM 3, .inl (cY 0, 22, .inl rd)), (AM 4, .inl (cY 0, 110, .inl kp)), (AM 5, .inl (cY 0, 8414, .inl td)), (AM 6, .inl (cY 0, 2, .inl wn)), (AM 13, .inl (cY 0, 4, .inl rw)), (AM 14, .inl (cY 0, 4, .inl br))]) hD hS hA [0, 1, 2, 3, 4, 5, 6, 7, 8] rfl
    refine va_calli (va_runV (As := [.int 1]) (rest := []) ⟨hx, hb, hml, hown, hts⟩ (c_X8_isFine l dC dI cY m0 AM g tb sA rd kp td wn rw br 1 s.heap.size) (cwV 1 hts gX8_play_X8_isFine rfl rfl rfl (by decide +kernel) ⟨Nat.le_of_ble_eq_true rfl, Nat.le_of_ble_eq_true rfl⟩) ⟨blindW, va_recv hK hPc (ci := 8) (q0 := 0) rfl rfl, fun U hU hW => ⟨rfl, wPre_of hPc hK hN hDc U hU hW⟩⟩ rfl rfl hl.1 rfl (lv_room (Nat.le_of_ble_eq_true rfl)) dX8_play_43 ⟨Nat.zero_le _, Nat.zero_le _⟩) hS (fun q _ h => hFc q h) hFc (fun r_4 u t H1 locs ht hvm hw hB hz1 hk1 hS1 => ?_)
    obtain ⟨hw, hb_5⟩ := hw
    subst hw
    refine lv_topi (fun x_6 ex_6 => ?_)
    obtain rfl : x_6 = 0 := ex_6.trans (by decide)
    have hJ := wJoin (wr := []) (w1 := [(m0, .inr (8, mdL AM (upd g 12 1))), (AM 0, .inl (cY 0, 72, .inl tb)), (AM 2, .inl (cY 0, 22, .inl sA)), (AM 3, .inl (cY 0, 22, .inl rd)), (AM 4, .inl (cY 0, 110, .inl kp)), (AM 5, .inl (cY 0, 8414, .inl td)), (AM 6, .inl (cY 0, 2, .inl wn)), (AM 13, .inl (cY 0, 4, .inl rw)), (AM 14, .inl (cY 0, 4, .inl br))]) (wn := [(m0, .inr (8, mdL AM (upd g 12 1))), (AM 0, .inl (cY 0, 72, .inl tb)), (AM 2, .inl (cY 0, 22, .inl sA)), (AM 3, .inl (cY 0, 22, .inl rd)), (AM 4, .inl (cY 0, 110, .inl kp)), (AM 5, .inl (cY 0, 8414, .inl td)), (AM 6, .inl (cY 0, 2, .inl wn)), (AM 13, .inl (cY 0, 4, .inl rw)), (AM 14, .inl (cY 0, 4, .inl br))]) hP hD [0, 1, 2, 3, 4, 5, 6, 7, 8] [] rfl rfl (by decide) (by decide) hk1 hFc hB ht [0, 1, 2, 3, 4, 5, 6, 7, 8] rfl (by decide)
    clear hB hk1 hFc hPc hDc hP hD hS hz1 hvm ht t
    obtain ⟨hP1, hD1⟩ := hJ
    generalize H1 = H at hP1 hS1 ⊢
    have hP : va_P (dC, dI) vwCl [(m0, .inr (8, mdL AM (upd g 12 1))), (AM 0, .inl (cY 0, 72, .inl tb)), (AM 2, .inl (cY 0, 22, .inl sA)), (AM 3, .inl (cY 0, 22, .inl rd)), (AM 4, .inl (cY 0, 110, .inl kp)), (AM 5, .inl (cY 0, 8414, .inl td)), (AM 6, .inl (cY 0, 2, .inl wn)), (AM 13, .inl (cY 0, 4, .inl rw)), (AM 14, .inl (cY 0, 4, .inl br))] H := hP1
    have hD : va_D A [(m0, .inr (8, mdL AM (upd g 12 1))), (AM 0, .inl (cY 0, 72, .inl tb)), (AM 2, .inl (cY 0, 22, .inl sA)), (AM 3, .inl (cY 0, 22, .inl rd)), (AM 4, .inl (cY 0, 110, .inl kp)), (AM 5, .inl (cY 0, 8414, .inl td)), (AM 6, .inl (cY 0, 2, .inl wn)), (AM 13, .inl (cY 0, 4, .inl rw)), (AM 14, .inl (cY 0, 4, .inl br))] := hD1
    have hS := hS1
    clear hP1 hD1 hS1
    refine lv_if_ne (tgt := 51) hx hb dX8_play_46 (by decide) (fun c_7 => ?_) (fun c_7 => ?_)
    · exact absurd (by decide) c_7
    refine lv_iconst (v := 0) hx hb dX8_play_49 (by decide) ?_
    have eo_8 : (X8_play_r g tb sA rd td wn many one two) = 0 := by rw [X8_play_r]; simp only [eq_true c_3, ↓reduceIte]
    have eo_9 : (X8_play_w0 g tb sA rd td wn many one two) = (upd g 12 1) := by rw [X8_play_w0]; simp only [eq_true c_3, ↓reduceIte]
    have eo_10 : (X8_play_w2 g tb sA rd td wn many one two) = sA := by rw [X8_play_w2]; simp only [eq_true c_3, ↓reduceIte]
    have eo_11 : (X8_play_w3 g tb sA rd td wn many one two) = rd := by rw [X8_play_w3]; simp only [eq_true c_3, ↓reduceIte]
    have eo_12 : (X8_play_w5 g tb sA rd td wn many one two) = td := by rw [X8_play_w5]; simp only [eq_true c_3, ↓reduceIte]
    have eo_13 : (X8_play_w6 g tb sA rd td wn many one two) = wn := by rw [X8_play_w6]; simp only [eq_true c_3, ↓reduceIte]
    have hP9 : va_P (dC, dI) vwCl [(m0, .inr (8, mdL AM (X8_play_w0 g tb sA rd td wn many one two))), (AM 0, .inl (cY 0, 72, .inl tb)), (AM 2, .inl (cY 0, 22, .inl (X8_play_w2 g tb sA rd td wn many one two))), (AM 3, .inl (cY 0, 22, .inl (X8_play_w3 g tb sA rd td wn many one two))), (AM 4, .inl (cY 0, 110, .inl kp)), (AM 5, .inl (cY 0, 8414, .inl (X8_play_w5 g tb sA rd td wn many one two))), (AM 6, .inl (cY 0, 2, .inl (X8_play_w6 g tb sA rd td wn many one two))), (AM 13, .inl (cY 0, 4, .inl rw)), (AM 14, .inl (cY 0, 4, .inl br))] H := by simp only [eo_9, eo_10, eo_11, eo_12, eo_13]; exact hP
    have hD9 : va_D A [(m0, .inr (8, mdL AM (X8_play_w0 g tb sA rd td wn many one two))), (AM 0, .inl (cY 0, 72, .inl tb)), (AM 2, .inl (cY 0, 22, .inl (X8_play_w2 g tb sA rd td wn many one two))), (AM 3, .inl (cY 0, 22, .inl (X8_play_w3 g tb sA rd td wn many one two))), (AM 4, .inl (cY 0, 110, .inl kp)), (AM 5, .inl (cY 0, 8414, .inl (X8_play_w5 g tb sA rd td wn many one two))), (AM 6, .inl (cY 0, 2, .inl (X8_play_w6 g tb sA rd td wn many one two))), (AM 13, .inl (cY 0, 4, .inl rw)), (AM 14, .inl (cY 0, 4, .inl br))] := by simp only [eo_9, eo_10, eo_11, eo_12, eo_13]; exact hD
    exact W.iret (v := 0) hx hb hr (fun t ht hW => ⟨⟨_, (), rfl, eo_8.symm, wPost_of hP9 hD9 ht⟩, hS.F ht⟩) hS.2.2 dX8_play_50
  · refine lv_aload_n hx hb dX8_play_11 rfl (lv_at hl 0 rfl) ?_
    refine lv_iload_n hx hb dX8_play_12 rfl (lv_at hl 2 rfl) ?_
    refine vp_callSi (W.runV (As := [.int one]) (rest := [.ref m0]) ⟨hx, hb, hml, hown, hts⟩ (c_X8_isInput l dC dI cY m0 AM g tb sA rd kp td wn rw br one) (cwV 1 hts gX8_play_X8_isInput rfl rfl rfl (by decide +kernel) ⟨Nat.le_of_ble_eq_true rfl, Nat.le_of_ble_eq_true rfl⟩) ⟨blindR, va_recv hK hP (ci := 8) (q0 := 0) rfl rfl, fun U hU hW => ⟨rfl, rPre_of hP hK hN U hU hW⟩⟩ rfl rfl hl.1 rfl (lv_room (Nat.le_of_ble_eq_true rfl)) dX8_play_13 ⟨Nat.zero_le _, Nat.zero_le _⟩) (fun r_14 hw => ?_)
    obtain ⟨hw, hb_15⟩ := hw
    subst hw
    refine lv_if_eq (tgt := 27) hx hb dX8_play_16 (by decide) (fun c_16 => ?_) (fun c_16 => ?_)
    · refine lv_iconst (v := 1) hx hb dX8_play_27 (by decide) ?_
      refine lv_goto (tgt := 43) hx hb dX8_play_28 (by decide) ?_
      have hPc := hP.sub (ws' := [(m0, .inr (8, mdL AM g)), (AM 0, .inl (cY 0, 72, .inl tb)), (AM 2, .inl (cY 0, 22, .inl sA)), (AM 3, .inl (cY 0, 22, .inl rd)), (AM 4, .inl (cY 0, 110, .inl kp)), (AM 5, .inl (cY 0, 8414, .inl td)), (AM 6, .inl (cY 0, 2, .inl wn)), (AM 13, .inl (cY 0, 4, .inl rw)), (AM 14, .inl (cY 0, 4, .inl br))]) [0, 1, 2, 3, 4, 5, 6, 7, 8] rfl
      have hDc := hD.sub (ws' := [(m0, .inr (8, mdL AM g)), (AM 0, .inl (cY 0, 72, .inl tb)), (AM 2, .inl (cY 0, 22, .inl sA)), (AM 3, .inl (cY 0, 22, .inl rd)), (AM 4, .inl (cY 0, 110, .inl kp)), (AM 5, .inl (cY 0, 8414, .inl td)), (AM 6, .inl (cY 0, 2, .inl wn)), (AM 13, .inl (cY 0, 4, .inl rw)), (AM 14, .inl (cY 0, 4, .inl br))]) [0, 1, 2, 3, 4, 5, 6, 7, 8] (by decide) rfl
      have hFc := va_free (wc := [(m0, .inr (8, mdL AM g)), (AM 0, .inl (cY 0, 72, .inl tb)), (AM 2, .inl (cY 0, 22, .inl sA)), (AM 3, .inl (cY 0, 22, .inl rd)), (AM 4, .inl (cY 0, 110, .inl kp)), (AM 5, .inl (cY 0, 8414, .inl td)), (AM 6, .inl (cY 0, 2, .inl wn)), (AM 13, .inl (cY 0, 4, .inl rw)), (AM 14, .inl (cY 0, 4, .inl br))]) hD hS hA [0, 1, 2, 3, 4, 5, 6, 7, 8] rfl
      refine va_calli (va_runV (As := [.int 1]) (rest := []) ⟨hx, hb, hml, hown, hts⟩ (c_X8_isFine l dC dI cY m0 AM g tb sA rd kp td wn rw br 1 s.heap.size) (cwV 1 hts gX8_play_X8_isFine rfl rfl rfl (by decide +kernel) ⟨Nat.le_of_ble_eq_true rfl, Nat.le_of_ble_eq_true rfl⟩) ⟨blindW, va_recv hK hPc (ci := 8) (q0 := 0) rfl rfl, fun U hU hW => ⟨rfl, wPre_of hPc hK hN hDc U hU hW⟩⟩ rfl rfl hl.1 rfl (lv_room (Nat.le_of_ble_eq_true rfl)) dX8_play_43 ⟨Nat.zero_le _, Nat.zero_le _⟩) hS (fun q _ h => hFc q h) hFc (fun r_17 u t H1 locs ht hvm hw hB hz1 hk1 hS1 => ?_)
      obtain ⟨hw, hb_18⟩ := hw
      subst hw
      refine lv_topi (fun x_19 ex_19 => ?_)
      obtain rfl : x_19 = 0 := ex_19.trans (by decide)
      have hJ := wJoin (wr := []) (w1 := [(m0, .inr (8, mdL AM (upd g 12 1))), (AM 0, .inl (cY 0, 72, .inl tb)), (AM 2, .inl (cY 0, 22, .inl sA)), (AM 3, .inl (cY 0, 22, .inl rd)), (AM 4, .inl (cY 0, 110, .inl kp)), (AM 5, .inl (cY 0, 8414, .inl td)), (AM 6, .inl (cY 0, 2, .inl wn)), (AM 13, .inl (cY 0, 4, .inl rw)), (AM 14, .inl (cY 0, 4, .inl br))]) (wn := [(m0, .inr (8, mdL AM (upd g 12 1))), (AM 0, .inl (cY 0, 72, .inl tb)), (AM 2, .inl (cY 0, 22, .inl sA)), (AM 3, .inl (cY 0, 22, .inl rd)), (AM 4, .inl (cY 0, 110, .inl kp)), (AM 5, .inl (cY 0, 8414, .inl td)), (AM 6, .inl (cY 0, 2, .inl wn)), (AM 13, .inl (cY 0, 4, .inl rw)), (AM 14, .inl (cY 0, 4, .inl br))]) hP hD [0, 1, 2, 3, 4, 5, 6, 7, 8] [] rfl rfl (by decide) (by decide) hk1 hFc hB ht [0, 1, 2, 3, 4, 5, 6, 7, 8] rfl (by decide)
      clear hB hk1 hFc hPc hDc hP hD hS hz1 hvm ht t
      obtain ⟨hP1, hD1⟩ := hJ
      generalize H1 = H at hP1 hS1 ⊢
      have hP : va_P (dC, dI) vwCl [(m0, .inr (8, mdL AM (upd g 12 1))), (AM 0, .inl (cY 0, 72, .inl tb)), (AM 2, .inl (cY 0, 22, .inl sA)), (AM 3, .inl (cY 0, 22, .inl rd)), (AM 4, .inl (cY 0, 110, .inl kp)), (AM 5, .inl (cY 0, 8414, .inl td)), (AM 6, .inl (cY 0, 2, .inl wn)), (AM 13, .inl (cY 0, 4, .inl rw)), (AM 14, .inl (cY 0, 4, .inl br))] H := hP1
      have hD : va_D A [(m0, .inr (8, mdL AM (upd g 12 1))), (AM 0, .inl (cY 0, 72, .inl tb)), (AM 2, .inl (cY 0, 22, .inl sA)), (AM 3, .inl (cY 0, 22, .inl rd)), (AM 4, .inl (cY 0, 110, .inl kp)), (AM 5, .inl (cY 0, 8414, .inl td)), (AM 6, .inl (cY 0, 2, .inl wn)), (AM 13, .inl (cY 0, 4, .inl rw)), (AM 14, .inl (cY 0, 4, .inl br))] := hD1
      have hS := hS1
      clear hP1 hD1 hS1
      refine lv_if_ne (tgt := 51) hx hb dX8_play_46 (by decide) (fun c_20 => ?_) (fun c_20 => ?_)
      · exact absurd (by decide) c_20
      refine lv_iconst (v := 0) hx hb dX8_play_49 (by decide) ?_
      have eo_21 : (X8_play_r g tb sA rd td wn many one two) = 0 := by rw [X8_play_r]; simp only [eq_false c_3, eq_true c_16, ↓reduceIte]
      have eo_22 : (X8_play_w0 g tb sA rd td wn many one two) = (upd g 12 1) := by rw [X8_play_w0]; simp only [eq_false c_3, eq_true c_16, ↓reduceIte]
      have eo_23 : (X8_play_w2 g tb sA rd td wn many one two) = sA := by rw [X8_play_w2]; simp only [eq_false c_3, eq_true c_16, ↓reduceIte]
      have eo_24 : (X8_play_w3 g tb sA rd td wn many one two) = rd := by rw [X8_play_w3]; simp only [eq_false c_3, eq_true c_16, ↓reduceIte]
      have eo_25 : (X8_play_w5 g tb sA rd td wn many one two) = td := by rw [X8_play_w5]; simp only [eq_false c_3, eq_true c_16, ↓reduceIte]
      have eo_26 : (X8_play_w6 g tb sA rd td wn many one two) = wn := by rw [X8_play_w6]; simp only [eq_false c_3, eq_true c_16, ↓reduceIte]
      have hP9 : va_P (dC, dI) vwCl [(m0, .inr (8, mdL AM (X8_play_w0 g tb sA rd td wn many one two))), (AM 0, .inl (cY 0, 72, .inl tb)), (AM 2, .inl (cY 0, 22, .inl (X8_play_w2 g tb sA rd td wn many one two))), (AM 3, .inl (cY 0, 22, .inl (X8_play_w3 g tb sA rd td wn many one two))), (AM 4, .inl (cY 0, 110, .inl kp)), (AM 5, .inl (cY 0, 8414, .inl (X8_play_w5 g tb sA rd td wn many one two))), (AM 6, .inl (cY 0, 2, .inl (X8_play_w6 g tb sA rd td wn many one two))), (AM 13, .inl (cY 0, 4, .inl rw)), (AM 14, .inl (cY 0, 4, .inl br))] H := by simp only [eo_22, eo_23, eo_24, eo_25, eo_26]; exact hP
      have hD9 : va_D A [(m0, .inr (8, mdL AM (X8_play_w0 g tb sA rd td wn many one two))), (AM 0, .inl (cY 0, 72, .inl tb)), (AM 2, .inl (cY 0, 22, .inl (X8_play_w2 g tb sA rd td wn many one two))), (AM 3, .inl (cY 0, 22, .inl (X8_play_w3 g tb sA rd td wn many one two))), (AM 4, .inl (cY 0, 110, .inl kp)), (AM 5, .inl (cY 0, 8414, .inl (X8_play_w5 g tb sA rd td wn many one two))), (AM 6, .inl (cY 0, 2, .inl (X8_play_w6 g tb sA rd td wn many one two))), (AM 13, .inl (cY 0, 4, .inl rw)), (AM 14, .inl (cY 0, 4, .inl br))] := by simp only [eo_22, eo_23, eo_24, eo_25, eo_26]; exact hD
      exact W.iret (v := 0) hx hb hr (fun t ht hW => ⟨⟨_, (), rfl, eo_21.symm, wPost_of hP9 hD9 ht⟩, hS.F ht⟩) hS.2.2 dX8_play_50
    · refine lv_aload_n hx hb dX8_play_19 rfl (lv_at hl 0 rfl) ?_
      refine lv_iload_n hx hb dX8_play_20 rfl (lv_at hl 3 rfl) ?_
      refine vp_callSi (W.runV (As := [.int two]) (rest := [.ref m0]) ⟨hx, hb, hml, hown, hts⟩ (c_X8_isInput l dC dI cY m0 AM g tb sA rd kp td wn rw br two) (cwV 1 hts gX8_play_X8_isInput rfl rfl rfl (by decide +kernel) ⟨Nat.le_of_ble_eq_true rfl, Nat.le_of_ble_eq_true rfl⟩) ⟨blindR, va_recv hK hP (ci := 8) (q0 := 0) rfl rfl, fun U hU hW => ⟨rfl, rPre_of hP hK hN U hU hW⟩⟩ rfl rfl hl.1 rfl (lv_room (Nat.le_of_ble_eq_true rfl)) dX8_play_21 ⟨Nat.zero_le _, Nat.zero_le _⟩) (fun r_27 hw => ?_)
      obtain ⟨hw, hb_28⟩ := hw
      subst hw
      refine lv_if_ne (tgt := 31) hx hb dX8_play_24 (by decide) (fun c_29 => ?_) (fun c_29 => ?_)
      · refine lv_aload_n hx hb dX8_play_31 rfl (lv_at hl 0 rfl) ?_
        refine va_get (D := (dC, dI)) (ci := 8) (v := .int (g 9)) (C := RX8) (T := TX8) (N := 17) hx hb hts inw_X8_play_X8 hown hK hP 0 rfl rfl 9 (by decide) (hts (.fieldLink RX8 51 "DuelFramesModel" "goesOn" "Z") (List.mem_of_getElem? (i := 1) rfl)) (fun _ h9 => h9) rfl dX8_play_32 ?_
        refine lv_if_eq (tgt := 42) hx hb dX8_play_35 (by decide) (fun c_30 => ?_) (fun c_30 => ?_)
        · refine lv_iconst (v := 2) hx hb dX8_play_42 (by decide) ?_
          have hPc := hP.sub (ws' := [(m0, .inr (8, mdL AM g)), (AM 0, .inl (cY 0, 72, .inl tb)), (AM 2, .inl (cY 0, 22, .inl sA)), (AM 3, .inl (cY 0, 22, .inl rd)), (AM 4, .inl (cY 0, 110, .inl kp)), (AM 5, .inl (cY 0, 8414, .inl td)), (AM 6, .inl (cY 0, 2, .inl wn)), (AM 13, .inl (cY 0, 4, .inl rw)), (AM 14, .inl (cY 0, 4, .inl br))]) [0, 1, 2, 3, 4, 5, 6, 7, 8] rfl
          have hDc := hD.sub (ws' := [(m0, .inr (8, mdL AM g)), (AM 0, .inl (cY 0, 72, .inl tb)), (AM 2, .inl (cY 0, 22, .inl sA)), (AM 3, .inl (cY 0, 22, .inl rd)), (AM 4, .inl (cY 0, 110, .inl kp)), (AM 5, .inl (cY 0, 8414, .inl td)), (AM 6, .inl (cY 0, 2, .inl wn)), (AM 13, .inl (cY 0, 4, .inl rw)), (AM 14, .inl (cY 0, 4, .inl br))]) [0, 1, 2, 3, 4, 5, 6, 7, 8] (by decide) rfl
          have hFc := va_free (wc := [(m0, .inr (8, mdL AM g)), (AM 0, .inl (cY 0, 72, .inl tb)), (AM 2, .inl (cY 0, 22, .inl sA)), (AM 3, .inl (cY 0, 22, .inl rd)), (AM 4, .inl (cY 0, 110, .inl kp)), (AM 5, .inl (cY 0, 8414, .inl td)), (AM 6, .inl (cY 0, 2, .inl wn)), (AM 13, .inl (cY 0, 4, .inl rw)), (AM 14, .inl (cY 0, 4, .inl br))]) hD hS hA [0, 1, 2, 3, 4, 5, 6, 7, 8] rfl
          refine va_calli (va_runV (As := [.int 2]) (rest := []) ⟨hx, hb, hml, hown, hts⟩ (c_X8_isFine l dC dI cY m0 AM g tb sA rd kp td wn rw br 2 s.heap.size) (cwV 1 hts gX8_play_X8_isFine rfl rfl rfl (by decide +kernel) ⟨Nat.le_of_ble_eq_true rfl, Nat.le_of_ble_eq_true rfl⟩) ⟨blindW, va_recv hK hPc (ci := 8) (q0 := 0) rfl rfl, fun U hU hW => ⟨rfl, wPre_of hPc hK hN hDc U hU hW⟩⟩ rfl rfl hl.1 rfl (lv_room (Nat.le_of_ble_eq_true rfl)) dX8_play_43 ⟨Nat.zero_le _, Nat.zero_le _⟩) hS (fun q _ h => hFc q h) hFc (fun r_31 u t H1 locs ht hvm hw hB hz1 hk1 hS1 => ?_)
          obtain ⟨hw, hb_32⟩ := hw
          subst hw
          refine lv_topi (fun x_33 ex_33 => ?_)
          obtain rfl : x_33 = 0 := ex_33.trans (by decide)
          have hJ := wJoin (wr := []) (w1 := [(m0, .inr (8, mdL AM (upd g 12 2))), (AM 0, .inl (cY 0, 72, .inl tb)), (AM 2, .inl (cY 0, 22, .inl sA)), (AM 3, .inl (cY 0, 22, .inl rd)), (AM 4, .inl (cY 0, 110, .inl kp)), (AM 5, .inl (cY 0, 8414, .inl td)), (AM 6, .inl (cY 0, 2, .inl wn)), (AM 13, .inl (cY 0, 4, .inl rw)), (AM 14, .inl (cY 0, 4, .inl br))]) (wn := [(m0, .inr (8, mdL AM (upd g 12 2))), (AM 0, .inl (cY 0, 72, .inl tb)), (AM 2, .inl (cY 0, 22, .inl sA)), (AM 3, .inl (cY 0, 22, .inl rd)), (AM 4, .inl (cY 0, 110, .inl kp)), (AM 5, .inl (cY 0, 8414, .inl td)), (AM 6, .inl (cY 0, 2, .inl wn)), (AM 13, .inl (cY 0, 4, .inl rw)), (AM 14, .inl (cY 0, 4, .inl br))]) hP hD [0, 1, 2, 3, 4, 5, 6, 7, 8] [] rfl rfl (by decide) (by decide) hk1 hFc hB ht [0, 1, 2, 3, 4, 5, 6, 7, 8] rfl (by decide)
          clear hB hk1 hFc hPc hDc hP hD hS hz1 hvm ht t
          obtain ⟨hP1, hD1⟩ := hJ
          generalize H1 = H at hP1 hS1 ⊢
          have hP : va_P (dC, dI) vwCl [(m0, .inr (8, mdL AM (upd g 12 2))), (AM 0, .inl (cY 0, 72, .inl tb)), (AM 2, .inl (cY 0, 22, .inl sA)), (AM 3, .inl (cY 0, 22, .inl rd)), (AM 4, .inl (cY 0, 110, .inl kp)), (AM 5, .inl (cY 0, 8414, .inl td)), (AM 6, .inl (cY 0, 2, .inl wn)), (AM 13, .inl (cY 0, 4, .inl rw)), (AM 14, .inl (cY 0, 4, .inl br))] H := hP1
          have hD : va_D A [(m0, .inr (8, mdL AM (upd g 12 2))), (AM 0, .inl (cY 0, 72, .inl tb)), (AM 2, .inl (cY 0, 22, .inl sA)), (AM 3, .inl (cY 0, 22, .inl rd)), (AM 4, .inl (cY 0, 110, .inl kp)), (AM 5, .inl (cY 0, 8414, .inl td)), (AM 6, .inl (cY 0, 2, .inl wn)), (AM 13, .inl (cY 0, 4, .inl rw)), (AM 14, .inl (cY 0, 4, .inl br))] := hD1
          have hS := hS1
          clear hP1 hD1 hS1
          refine lv_if_ne (tgt := 51) hx hb dX8_play_46 (by decide) (fun c_34 => ?_) (fun c_34 => ?_)
          · exact absurd (by decide) c_34
          refine lv_iconst (v := 0) hx hb dX8_play_49 (by decide) ?_
          have eo_35 : (X8_play_r g tb sA rd td wn many one two) = 0 := by rw [X8_play_r]; simp only [eq_false c_3, eq_false c_16, eq_false c_29, eq_true c_30, ↓reduceIte]
          have eo_36 : (X8_play_w0 g tb sA rd td wn many one two) = (upd g 12 2) := by rw [X8_play_w0]; simp only [eq_false c_3, eq_false c_16, eq_false c_29, eq_true c_30, ↓reduceIte]
          have eo_37 : (X8_play_w2 g tb sA rd td wn many one two) = sA := by rw [X8_play_w2]; simp only [eq_false c_3, eq_false c_16, eq_false c_29, eq_true c_30, ↓reduceIte]
          have eo_38 : (X8_play_w3 g tb sA rd td wn many one two) = rd := by rw [X8_play_w3]; simp only [eq_false c_3, eq_false c_16, eq_false c_29, eq_true c_30, ↓reduceIte]
          have eo_39 : (X8_play_w5 g tb sA rd td wn many one two) = td := by rw [X8_play_w5]; simp only [eq_false c_3, eq_false c_16, eq_false c_29, eq_true c_30, ↓reduceIte]
          have eo_40 : (X8_play_w6 g tb sA rd td wn many one two) = wn := by rw [X8_play_w6]; simp only [eq_false c_3, eq_false c_16, eq_false c_29, eq_true c_30, ↓reduceIte]
          have hP9 : va_P (dC, dI) vwCl [(m0, .inr (8, mdL AM (X8_play_w0 g tb sA rd td wn many one two))), (AM 0, .inl (cY 0, 72, .inl tb)), (AM 2, .inl (cY 0, 22, .inl (X8_play_w2 g tb sA rd td wn many one two))), (AM 3, .inl (cY 0, 22, .inl (X8_play_w3 g tb sA rd td wn many one two))), (AM 4, .inl (cY 0, 110, .inl kp)), (AM 5, .inl (cY 0, 8414, .inl (X8_play_w5 g tb sA rd td wn many one two))), (AM 6, .inl (cY 0, 2, .inl (X8_play_w6 g tb sA rd td wn many one two))), (AM 13, .inl (cY 0, 4, .inl rw)), (AM 14, .inl (cY 0, 4, .inl br))] H := by simp only [eo_36, eo_37, eo_38, eo_39, eo_40]; exact hP
          have hD9 : va_D A [(m0, .inr (8, mdL AM (X8_play_w0 g tb sA rd td wn many one two))), (AM 0, .inl (cY 0, 72, .inl tb)), (AM 2, .inl (cY 0, 22, .inl (X8_play_w2 g tb sA rd td wn many one two))), (AM 3, .inl (cY 0, 22, .inl (X8_play_w3 g tb sA rd td wn many one two))), (AM 4, .inl (cY 0, 110, .inl kp)), (AM 5, .inl (cY 0, 8414, .inl (X8_play_w5 g tb sA rd td wn many one two))), (AM 6, .inl (cY 0, 2, .inl (X8_play_w6 g tb sA rd td wn many one two))), (AM 13, .inl (cY 0, 4, .inl rw)), (AM 14, .inl (cY 0, 4, .inl br))] := by simp only [eo_36, eo_37, eo_38, eo_39, eo_40]; exact hD
          exact W.iret (v := 0) hx hb hr (fun t ht hW => ⟨⟨_, (), rfl, eo_35.symm, wPost_of hP9 hD9 ht⟩, hS.F ht⟩) hS.2.2 dX8_play_50
        · refine lv_iconst (v := 0) hx hb dX8_play_38 (by decide) ?_
          refine lv_goto (tgt := 43) hx hb dX8_play_39 (by decide) ?_
          have hPc := hP.sub (ws' := [(m0, .inr (8, mdL AM g)), (AM 0, .inl (cY 0, 72, .inl tb)), (AM 2, .inl (cY 0, 22, .inl sA)), (AM 3, .inl (cY 0, 22, .inl rd)), (AM 4, .inl (cY 0, 110, .inl kp)), (AM 5, .inl (cY 0, 8414, .inl td)), (AM 6, .inl (cY 0, 2, .inl wn)), (AM 13, .inl (cY 0, 4, .inl rw)), (AM 14, .inl (cY 0, 4, .inl br))]) [0, 1, 2, 3, 4, 5, 6, 7, 8] rfl
          have hDc := hD.sub (ws' := [(m0, .inr (8, mdL AM g)), (AM 0, .inl (cY 0, 72, .inl tb)), (AM 2, .inl (cY 0, 22, .inl sA)), (AM 3, .inl (cY 0, 22, .inl rd)), (AM 4, .inl (cY 0, 110, .inl kp)), (AM 5, .inl (cY 0, 8414, .inl td)), (AM 6, .inl (cY 0, 2, .inl wn)), (AM 13, .inl (cY 0, 4, .inl rw)), (AM 14, .inl (cY 0, 4, .inl br))]) [0, 1, 2, 3, 4, 5, 6, 7, 8] (by decide) rfl
          have hFc := va_free (wc := [(m0, .inr (8, mdL AM g)), (AM 0, .inl (cY 0, 72, .inl tb)), (AM 2, .inl (cY 0, 22, .inl sA)), (AM 3, .inl (cY 0, 22, .inl rd)), (AM 4, .inl (cY 0, 110, .inl kp)), (AM 5, .inl (cY 0, 8414, .inl td)), (AM 6, .inl (cY 0, 2, .inl wn)), (AM 13, .inl (cY 0, 4, .inl rw)), (AM 14, .inl (cY 0, 4, .inl br))]) hD hS hA [0, 1, 2, 3, 4, 5, 6, 7, 8] rfl
          refine va_calli (va_runV (As := [.int 0]) (rest := []) ⟨hx, hb, hml, hown, hts⟩ (c_X8_isFine l dC dI cY m0 AM g tb sA rd kp td wn rw br 0 s.heap.size) (cwV 1 hts gX8_play_X8_isFine rfl rfl rfl (by decide +kernel) ⟨Nat.le_of_ble_eq_true rfl, Nat.le_of_ble_eq_true rfl⟩) ⟨blindW, va_recv hK hPc (ci := 8) (q0 := 0) rfl rfl, fun U hU hW => ⟨rfl, wPre_of hPc hK hN hDc U hU hW⟩⟩ rfl rfl hl.1 rfl (lv_room (Nat.le_of_ble_eq_true rfl)) dX8_play_43 ⟨Nat.zero_le _, Nat.zero_le _⟩) hS (fun q _ h => hFc q h) hFc (fun r_41 u t H1 locs ht hvm hw hB hz1 hk1 hS1 => ?_)
          obtain ⟨hw, hb_42⟩ := hw
          subst hw
          refine lv_topi (fun x_43 ex_43 => ?_)
          obtain rfl : x_43 = 1 := ex_43.trans (by decide)
          have hJ := wJoin (wr := []) (w1 := [(m0, .inr (8, mdL AM (upd g 12 0))), (AM 0, .inl (cY 0, 72, .inl tb)), (AM 2, .inl (cY 0, 22, .inl sA)), (AM 3, .inl (cY 0, 22, .inl rd)), (AM 4, .inl (cY 0, 110, .inl kp)), (AM 5, .inl (cY 0, 8414, .inl td)), (AM 6, .inl (cY 0, 2, .inl wn)), (AM 13, .inl (cY 0, 4, .inl rw)), (AM 14, .inl (cY 0, 4, .inl br))]) (wn := [(m0, .inr (8, mdL AM (upd g 12 0))), (AM 0, .inl (cY 0, 72, .inl tb)), (AM 2, .inl (cY 0, 22, .inl sA)), (AM 3, .inl (cY 0, 22, .inl rd)), (AM 4, .inl (cY 0, 110, .inl kp)), (AM 5, .inl (cY 0, 8414, .inl td)), (AM 6, .inl (cY 0, 2, .inl wn)), (AM 13, .inl (cY 0, 4, .inl rw)), (AM 14, .inl (cY 0, 4, .inl br))]) hP hD [0, 1, 2, 3, 4, 5, 6, 7, 8] [] rfl rfl (by decide) (by decide) hk1 hFc hB ht [0, 1, 2, 3, 4, 5, 6, 7, 8] rfl (by decide)
          clear hB hk1 hFc hPc hDc hP hD hS hz1 hvm ht t
          obtain ⟨hP1, hD1⟩ := hJ
          generalize H1 = H at hP1 hS1 ⊢
          have hP : va_P (dC, dI) vwCl [(m0, .inr (8, mdL AM (upd g 12 0))), (AM 0, .inl (cY 0, 72, .inl tb)), (AM 2, .inl (cY 0, 22, .inl sA)), (AM 3, .inl (cY 0, 22, .inl rd)), (AM 4, .inl (cY 0, 110, .inl kp)), (AM 5, .inl (cY 0, 8414, .inl td)), (AM 6, .inl (cY 0, 2, .inl wn)), (AM 13, .inl (cY 0, 4, .inl rw)), (AM 14, .inl (cY 0, 4, .inl br))] H := hP1
          have hD : va_D A [(m0, .inr (8, mdL AM (upd g 12 0))), (AM 0, .inl (cY 0, 72, .inl tb)), (AM 2, .inl (cY 0, 22, .inl sA)), (AM 3, .inl (cY 0, 22, .inl rd)), (AM 4, .inl (cY 0, 110, .inl kp)), (AM 5, .inl (cY 0, 8414, .inl td)), (AM 6, .inl (cY 0, 2, .inl wn)), (AM 13, .inl (cY 0, 4, .inl rw)), (AM 14, .inl (cY 0, 4, .inl br))] := hD1
          have hS := hS1
          clear hP1 hD1 hS1
          refine lv_if_ne (tgt := 51) hx hb dX8_play_46 (by decide) (fun c_44 => ?_) (fun c_44 => ?_)
          rotate_left
          · exact absurd c_44 (by decide)
          refine lv_aload_n hx hb dX8_play_51 rfl (lv_at hl 0 rfl) ?_
          have hPc := hP.sub (ws' := [(m0, .inr (8, mdL AM (upd g 12 0))), (AM 0, .inl (cY 0, 72, .inl tb)), (AM 2, .inl (cY 0, 22, .inl sA)), (AM 3, .inl (cY 0, 22, .inl rd)), (AM 4, .inl (cY 0, 110, .inl kp)), (AM 5, .inl (cY 0, 8414, .inl td)), (AM 6, .inl (cY 0, 2, .inl wn)), (AM 13, .inl (cY 0, 4, .inl rw)), (AM 14, .inl (cY 0, 4, .inl br))]) [0, 1, 2, 3, 4, 5, 6, 7, 8] rfl
          have hDc := hD.sub (ws' := [(m0, .inr (8, mdL AM (upd g 12 0))), (AM 0, .inl (cY 0, 72, .inl tb)), (AM 2, .inl (cY 0, 22, .inl sA)), (AM 3, .inl (cY 0, 22, .inl rd)), (AM 4, .inl (cY 0, 110, .inl kp)), (AM 5, .inl (cY 0, 8414, .inl td)), (AM 6, .inl (cY 0, 2, .inl wn)), (AM 13, .inl (cY 0, 4, .inl rw)), (AM 14, .inl (cY 0, 4, .inl br))]) [0, 1, 2, 3, 4, 5, 6, 7, 8] (by decide) rfl
          have hFc := va_free (wc := [(m0, .inr (8, mdL AM (upd g 12 0))), (AM 0, .inl (cY 0, 72, .inl tb)), (AM 2, .inl (cY 0, 22, .inl sA)), (AM 3, .inl (cY 0, 22, .inl rd)), (AM 4, .inl (cY 0, 110, .inl kp)), (AM 5, .inl (cY 0, 8414, .inl td)), (AM 6, .inl (cY 0, 2, .inl wn)), (AM 13, .inl (cY 0, 4, .inl rw)), (AM 14, .inl (cY 0, 4, .inl br))]) hD hS hA [0, 1, 2, 3, 4, 5, 6, 7, 8] rfl
          refine va_callv (va_runV (As := []) (rest := []) ⟨hx, hb, hml, hown, hts⟩ (c_X8_load l dC dI cY m0 AM (upd g 12 0) tb sA rd kp td wn rw br H.size) (cwV 0 hts gX8_play_X8_load rfl rfl rfl (by decide +kernel) ⟨Nat.le_of_ble_eq_true rfl, Nat.le_of_ble_eq_true rfl⟩) ⟨blindW, va_recv hK hPc (ci := 8) (q0 := 0) rfl rfl, fun U hU hW => ⟨rfl, wPre_of hPc hK hN hDc U hU hW⟩⟩ rfl rfl hl.1 rfl (lv_room (Nat.le_of_ble_eq_true rfl)) dX8_play_52 ⟨Nat.zero_le _, Nat.zero_le _⟩) hS (fun q _ h => hFc q h) hFc (fun u t H1 locs ht hvm hw hB hz1 hk1 hS1 => ?_)
          have hJ := wJoin (wr := []) (w1 := [(m0, .inr (8, mdL AM (upd g 12 0))), (AM 0, .inl (cY 0, 72, .inl tb)), (AM 2, .inl (cY 0, 22, .inl (X8_load_w2 sA rd))), (AM 3, .inl (cY 0, 22, .inl rd)), (AM 4, .inl (cY 0, 110, .inl kp)), (AM 5, .inl (cY 0, 8414, .inl td)), (AM 6, .inl (cY 0, 2, .inl wn)), (AM 13, .inl (cY 0, 4, .inl rw)), (AM 14, .inl (cY 0, 4, .inl br))]) (wn := [(m0, .inr (8, mdL AM (upd g 12 0))), (AM 0, .inl (cY 0, 72, .inl tb)), (AM 2, .inl (cY 0, 22, .inl (X8_load_w2 sA rd))), (AM 3, .inl (cY 0, 22, .inl rd)), (AM 4, .inl (cY 0, 110, .inl kp)), (AM 5, .inl (cY 0, 8414, .inl td)), (AM 6, .inl (cY 0, 2, .inl wn)), (AM 13, .inl (cY 0, 4, .inl rw)), (AM 14, .inl (cY 0, 4, .inl br))]) hP hD [0, 1, 2, 3, 4, 5, 6, 7, 8] [] rfl rfl (by decide) (by decide) hk1 hFc hB ht [0, 1, 2, 3, 4, 5, 6, 7, 8] rfl (by decide)
          clear hB hk1 hFc hPc hDc hP hD hS hz1 hvm ht t
          obtain ⟨hP1, hD1⟩ := hJ
          generalize H1 = H at hP1 hS1 ⊢
          have hP : va_P (dC, dI) vwCl [(m0, .inr (8, mdL AM (upd g 12 0))), (AM 0, .inl (cY 0, 72, .inl tb)), (AM 2, .inl (cY 0, 22, .inl (X8_load_w2 sA rd))), (AM 3, .inl (cY 0, 22, .inl rd)), (AM 4, .inl (cY 0, 110, .inl kp)), (AM 5, .inl (cY 0, 8414, .inl td)), (AM 6, .inl (cY 0, 2, .inl wn)), (AM 13, .inl (cY 0, 4, .inl rw)), (AM 14, .inl (cY 0, 4, .inl br))] H := hP1
          have hD : va_D A [(m0, .inr (8, mdL AM (upd g 12 0))), (AM 0, .inl (cY 0, 72, .inl tb)), (AM 2, .inl (cY 0, 22, .inl (X8_load_w2 sA rd))), (AM 3, .inl (cY 0, 22, .inl rd)), (AM 4, .inl (cY 0, 110, .inl kp)), (AM 5, .inl (cY 0, 8414, .inl td)), (AM 6, .inl (cY 0, 2, .inl wn)), (AM 13, .inl (cY 0, 4, .inl rw)), (AM 14, .inl (cY 0, 4, .inl br))] := hD1
          have hS := hS1
          clear hP1 hD1 hS1
          obtain ⟨z_46, ez_46⟩ : ∃ z, z = (X8_load_w2 sA rd) := ⟨_, rfl⟩
          rw [← ez_46] at hP hD
          have hsz_46 : okS z_46 := by rw [ez_46]; exact okS_load hrd
          refine lv_iconst (v := 0) hx hb dX8_play_55 (by decide) ?_
          refine lv_istore (lv' := [(4, .int 0), (0, .ref m0), (1, .int many), (2, .int one), (3, .int two)]) hx hb dX8_play_56 hl (by decide) rfl (fun ls hl => ?_)
          refine loopI (D := (dC, dI)) (σ := (Nat → Int32) × (Nat → Int32) × (Nat → Int32) × (Nat → Int32) × (Nat → Int32)) 60 (fun j x => [(m0, .inr (8, mdL AM x.1)), (AM 0, .inl (cY 0, 72, .inl tb)), (AM 2, .inl (cY 0, 22, .inl x.2.1)), (AM 3, .inl (cY 0, 22, .inl x.2.2.1)), (AM 4, .inl (cY 0, 110, .inl kp)), (AM 5, .inl (cY 0, 8414, .inl x.2.2.2.1)), (AM 6, .inl (cY 0, 2, .inl x.2.2.2.2)), (AM 13, .inl (cY 0, 4, .inl rw)), (AM 14, .inl (cY 0, 4, .inl br))]) (fun j x => [(0, .ref m0), (1, .int many), (2, .int one), (3, .int two), (4, .int (nI j))]) 58 5 (A := A) (H0 := s.heap) (fun j x => X8_ply_run tb one two many 60 0 ((upd g 12 0), z_46, rd, td, wn) = X8_ply_run tb one two many (60 - j) j x ∧ okS x.2.1 ∧ (¬ x.1 9 = 0 → vp_in (x.1 7) 600)) ?_ ?_ ((upd g 12 0), z_46, rd, td, wn) ⟨rfl, hsz_46, hgo⟩ hP hD hS (lv_sub hl [1, 2, 3, 4, 0] rfl)
          · rintro j ⟨g9, sA9, rd9, td9, wn9⟩ hj hi H locs ls hP hD hS hl hk
            have hP : va_P (dC, dI) vwCl [(m0, .inr (8, mdL AM g9)), (AM 0, .inl (cY 0, 72, .inl tb)), (AM 2, .inl (cY 0, 22, .inl sA9)), (AM 3, .inl (cY 0, 22, .inl rd9)), (AM 4, .inl (cY 0, 110, .inl kp)), (AM 5, .inl (cY 0, 8414, .inl td9)), (AM 6, .inl (cY 0, 2, .inl wn9)), (AM 13, .inl (cY 0, 4, .inl rw)), (AM 14, .inl (cY 0, 4, .inl br))] H := hP
            have hD : va_D A [(m0, .inr (8, mdL AM g9)), (AM 0, .inl (cY 0, 72, .inl tb)), (AM 2, .inl (cY 0, 22, .inl sA9)), (AM 3, .inl (cY 0, 22, .inl rd9)), (AM 4, .inl (cY 0, 110, .inl kp)), (AM 5, .inl (cY 0, 8414, .inl td9)), (AM 6, .inl (cY 0, 2, .inl wn9)), (AM 13, .inl (cY 0, 4, .inl rw)), (AM 14, .inl (cY 0, 4, .inl br))] := hD
            have hl : lv_has ls 5 [(0, .ref m0), (1, .int many), (2, .int one), (3, .int two), (4, .int (nI j))] := hl
            (try dsimp only at hi)
            have hs9 := hi.2.1
            have hg9 := hi.2.2
            refine lv_iload hx hb dX8_play_58 (lv_at hl 4 rfl) ?_
            refine lv_iload_n hx hb dX8_play_60 rfl (lv_at hl 1 rfl) ?_
            refine lv_icmp_ge (tgt := 130) hx hb dX8_play_61 (by decide) (fun c_47 => ?_) (fun c_47 => ?_)
            · have hr9 : X8_ply_run tb one two many 60 0 ((upd g 12 0), z_46, rd, td, wn) = (g9, sA9, rd9, td9, wn9) := by rw [hi.1, show 60 - j = (60 - (j + 1)) + 1 by omega, X8_ply_run_s]; simp only [← ez_46, eq_true c_47, ↓reduceIte]
              have q58_0 : g9 = (X8_ply_run tb one two many 60 0 ((upd g 12 0), z_46, rd, td, wn)).1 := congrArg (fun z => z.1) hr9.symm
              have q58_1 : sA9 = (X8_ply_run tb one two many 60 0 ((upd g 12 0), z_46, rd, td, wn)).2.1 := congrArg (fun z => z.2.1) hr9.symm
              have q58_2 : rd9 = (X8_ply_run tb one two many 60 0 ((upd g 12 0), z_46, rd, td, wn)).2.2.1 := congrArg (fun z => z.2.2.1) hr9.symm
              have q58_3 : td9 = (X8_ply_run tb one two many 60 0 ((upd g 12 0), z_46, rd, td, wn)).2.2.2.1 := congrArg (fun z => z.2.2.2.1) hr9.symm
              have q58_4 : wn9 = (X8_ply_run tb one two many 60 0 ((upd g 12 0), z_46, rd, td, wn)).2.2.2.2 := congrArg (fun z => z.2.2.2.2) hr9.symm
              refine lv_aload_n hx hb dX8_play_130 rfl (lv_at hl 0 rfl) ?_
              refine va_get (D := (dC, dI)) (ci := 8) (v := .int (g9 7)) (C := RX8) (T := TX8) (N := 17) hx hb hts inw_X8_play_X8 hown hK hP 0 rfl rfl 7 (by decide) (hts (.fieldLink RX8 28 "DuelFramesModel" "frames" "I") (List.mem_of_getElem? (i := 2) rfl)) (fun _ h9 => h9) rfl dX8_play_131 ?_
              have eo_48 : (X8_play_r g tb sA rd td wn many one two) = (g9 7) := by rw [X8_play_r]; simp only [← ez_46, ← q58_0, ← q58_1, ← q58_2, ← q58_3, ← q58_4, eq_false c_3, eq_false c_16, eq_false c_29, eq_false c_30, ↓reduceIte]
              have eo_49 : (X8_play_w0 g tb sA rd td wn many one two) = g9 := by rw [X8_play_w0]; simp only [← ez_46, ← q58_0, ← q58_1, ← q58_2, ← q58_3, ← q58_4, eq_false c_3, eq_false c_16, eq_false c_29, eq_false c_30, ↓reduceIte]
              have eo_50 : (X8_play_w2 g tb sA rd td wn many one two) = sA9 := by rw [X8_play_w2]; simp only [← ez_46, ← q58_0, ← q58_1, ← q58_2, ← q58_3, ← q58_4, eq_false c_3, eq_false c_16, eq_false c_29, eq_false c_30, ↓reduceIte]
              have eo_51 : (X8_play_w3 g tb sA rd td wn many one two) = rd9 := by rw [X8_play_w3]; simp only [← ez_46, ← q58_0, ← q58_1, ← q58_2, ← q58_3, ← q58_4, eq_false c_3, eq_false c_16, eq_false c_29, eq_false c_30, ↓reduceIte]
              have eo_52 : (X8_play_w5 g tb sA rd td wn many one two) = td9 := by rw [X8_play_w5]; simp only [← ez_46, ← q58_0, ← q58_1, ← q58_2, ← q58_3, ← q58_4, eq_false c_3, eq_false c_16, eq_false c_29, eq_false c_30, ↓reduceIte]
              have eo_53 : (X8_play_w6 g tb sA rd td wn many one two) = wn9 := by rw [X8_play_w6]; simp only [← ez_46, ← q58_0, ← q58_1, ← q58_2, ← q58_3, ← q58_4, eq_false c_3, eq_false c_16, eq_false c_29, eq_false c_30, ↓reduceIte]
              have hP9 : va_P (dC, dI) vwCl [(m0, .inr (8, mdL AM (X8_play_w0 g tb sA rd td wn many one two))), (AM 0, .inl (cY 0, 72, .inl tb)), (AM 2, .inl (cY 0, 22, .inl (X8_play_w2 g tb sA rd td wn many one two))), (AM 3, .inl (cY 0, 22, .inl (X8_play_w3 g tb sA rd td wn many one two))), (AM 4, .inl (cY 0, 110, .inl kp)), (AM 5, .inl (cY 0, 8414, .inl (X8_play_w5 g tb sA rd td wn many one two))), (AM 6, .inl (cY 0, 2, .inl (X8_play_w6 g tb sA rd td wn many one two))), (AM 13, .inl (cY 0, 4, .inl rw)), (AM 14, .inl (cY 0, 4, .inl br))] H := by simp only [eo_49, eo_50, eo_51, eo_52, eo_53]; exact hP
              have hD9 : va_D A [(m0, .inr (8, mdL AM (X8_play_w0 g tb sA rd td wn many one two))), (AM 0, .inl (cY 0, 72, .inl tb)), (AM 2, .inl (cY 0, 22, .inl (X8_play_w2 g tb sA rd td wn many one two))), (AM 3, .inl (cY 0, 22, .inl (X8_play_w3 g tb sA rd td wn many one two))), (AM 4, .inl (cY 0, 110, .inl kp)), (AM 5, .inl (cY 0, 8414, .inl (X8_play_w5 g tb sA rd td wn many one two))), (AM 6, .inl (cY 0, 2, .inl (X8_play_w6 g tb sA rd td wn many one two))), (AM 13, .inl (cY 0, 4, .inl rw)), (AM 14, .inl (cY 0, 4, .inl br))] := by simp only [eo_49, eo_50, eo_51, eo_52, eo_53]; exact hD
              exact W.iret (v := (g9 7)) hx hb hr (fun t ht hW => ⟨⟨_, (), rfl, eo_48.symm, wPost_of hP9 hD9 ht⟩, hS.F ht⟩) hS.2.2 dX8_play_134
            · refine lv_aload_n hx hb dX8_play_64 rfl (lv_at hl 0 rfl) ?_
              refine va_get (D := (dC, dI)) (ci := 8) (v := .int (g9 9)) (C := RX8) (T := TX8) (N := 17) hx hb hts inw_X8_play_X8 hown hK hP 0 rfl rfl 9 (by decide) (hts (.fieldLink RX8 51 "DuelFramesModel" "goesOn" "Z") (List.mem_of_getElem? (i := 1) rfl)) (fun _ h9 => h9) rfl dX8_play_65 ?_
              refine lv_if_eq (tgt := 130) hx hb dX8_play_68 (by decide) (fun c_48 => ?_) (fun c_48 => ?_)
              · have hr9 : X8_ply_run tb one two many 60 0 ((upd g 12 0), z_46, rd, td, wn) = (g9, sA9, rd9, td9, wn9) := by rw [hi.1, show 60 - j = (60 - (j + 1)) + 1 by omega, X8_ply_run_s]; simp only [← ez_46, eq_false c_47, eq_true c_48, ↓reduceIte]
                have q58_0 : g9 = (X8_ply_run tb one two many 60 0 ((upd g 12 0), z_46, rd, td, wn)).1 := congrArg (fun z => z.1) hr9.symm
                have q58_1 : sA9 = (X8_ply_run tb one two many 60 0 ((upd g 12 0), z_46, rd, td, wn)).2.1 := congrArg (fun z => z.2.1) hr9.symm
                have q58_2 : rd9 = (X8_ply_run tb one two many 60 0 ((upd g 12 0), z_46, rd, td, wn)).2.2.1 := congrArg (fun z => z.2.2.1) hr9.symm
                have q58_3 : td9 = (X8_ply_run tb one two many 60 0 ((upd g 12 0), z_46, rd, td, wn)).2.2.2.1 := congrArg (fun z => z.2.2.2.1) hr9.symm
                have q58_4 : wn9 = (X8_ply_run tb one two many 60 0 ((upd g 12 0), z_46, rd, td, wn)).2.2.2.2 := congrArg (fun z => z.2.2.2.2) hr9.symm
                refine lv_aload_n hx hb dX8_play_130 rfl (lv_at hl 0 rfl) ?_
                refine va_get (D := (dC, dI)) (ci := 8) (v := .int (g9 7)) (C := RX8) (T := TX8) (N := 17) hx hb hts inw_X8_play_X8 hown hK hP 0 rfl rfl 7 (by decide) (hts (.fieldLink RX8 28 "DuelFramesModel" "frames" "I") (List.mem_of_getElem? (i := 2) rfl)) (fun _ h9 => h9) rfl dX8_play_131 ?_
                have eo_49 : (X8_play_r g tb sA rd td wn many one two) = (g9 7) := by rw [X8_play_r]; simp only [← ez_46, ← q58_0, ← q58_1, ← q58_2, ← q58_3, ← q58_4, eq_false c_3, eq_false c_16, eq_false c_29, eq_false c_30, ↓reduceIte]
                have eo_50 : (X8_play_w0 g tb sA rd td wn many one two) = g9 := by rw [X8_play_w0]; simp only [← ez_46, ← q58_0, ← q58_1, ← q58_2, ← q58_3, ← q58_4, eq_false c_3, eq_false c_16, eq_false c_29, eq_false c_30, ↓reduceIte]
                have eo_51 : (X8_play_w2 g tb sA rd td wn many one two) = sA9 := by rw [X8_play_w2]; simp only [← ez_46, ← q58_0, ← q58_1, ← q58_2, ← q58_3, ← q58_4, eq_false c_3, eq_false c_16, eq_false c_29, eq_false c_30, ↓reduceIte]
                have eo_52 : (X8_play_w3 g tb sA rd td wn many one two) = rd9 := by rw [X8_play_w3]; simp only [← ez_46, ← q58_0, ← q58_1, ← q58_2, ← q58_3, ← q58_4, eq_false c_3, eq_false c_16, eq_false c_29, eq_false c_30, ↓reduceIte]
                have eo_53 : (X8_play_w5 g tb sA rd td wn many one two) = td9 := by rw [X8_play_w5]; simp only [← ez_46, ← q58_0, ← q58_1, ← q58_2, ← q58_3, ← q58_4, eq_false c_3, eq_false c_16, eq_false c_29, eq_false c_30, ↓reduceIte]
                have eo_54 : (X8_play_w6 g tb sA rd td wn many one two) = wn9 := by rw [X8_play_w6]; simp only [← ez_46, ← q58_0, ← q58_1, ← q58_2, ← q58_3, ← q58_4, eq_false c_3, eq_false c_16, eq_false c_29, eq_false c_30, ↓reduceIte]
                have hP9 : va_P (dC, dI) vwCl [(m0, .inr (8, mdL AM (X8_play_w0 g tb sA rd td wn many one two))), (AM 0, .inl (cY 0, 72, .inl tb)), (AM 2, .inl (cY 0, 22, .inl (X8_play_w2 g tb sA rd td wn many one two))), (AM 3, .inl (cY 0, 22, .inl (X8_play_w3 g tb sA rd td wn many one two))), (AM 4, .inl (cY 0, 110, .inl kp)), (AM 5, .inl (cY 0, 8414, .inl (X8_play_w5 g tb sA rd td wn many one two))), (AM 6, .inl (cY 0, 2, .inl (X8_play_w6 g tb sA rd td wn many one two))), (AM 13, .inl (cY 0, 4, .inl rw)), (AM 14, .inl (cY 0, 4, .inl br))] H := by simp only [eo_50, eo_51, eo_52, eo_53, eo_54]; exact hP
                have hD9 : va_D A [(m0, .inr (8, mdL AM (X8_play_w0 g tb sA rd td wn many one two))), (AM 0, .inl (cY 0, 72, .inl tb)), (AM 2, .inl (cY 0, 22, .inl (X8_play_w2 g tb sA rd td wn many one two))), (AM 3, .inl (cY 0, 22, .inl (X8_play_w3 g tb sA rd td wn many one two))), (AM 4, .inl (cY 0, 110, .inl kp)), (AM 5, .inl (cY 0, 8414, .inl (X8_play_w5 g tb sA rd td wn many one two))), (AM 6, .inl (cY 0, 2, .inl (X8_play_w6 g tb sA rd td wn many one two))), (AM 13, .inl (cY 0, 4, .inl rw)), (AM 14, .inl (cY 0, 4, .inl br))] := by simp only [eo_50, eo_51, eo_52, eo_53, eo_54]; exact hD
                exact W.iret (v := (g9 7)) hx hb hr (fun t ht hW => ⟨⟨_, (), rfl, eo_49.symm, wPost_of hP9 hD9 ht⟩, hS.F ht⟩) hS.2.2 dX8_play_134
              · refine lv_aload_n hx hb dX8_play_71 rfl (lv_at hl 0 rfl) ?_
                refine lv_iload_n hx hb dX8_play_72 rfl (lv_at hl 2 rfl) ?_
                refine lv_iload_n hx hb dX8_play_73 rfl (lv_at hl 3 rfl) ?_
                have hPc := hP.sub (ws' := [(m0, .inr (8, mdL AM g9)), (AM 0, .inl (cY 0, 72, .inl tb)), (AM 2, .inl (cY 0, 22, .inl sA9)), (AM 3, .inl (cY 0, 22, .inl rd9)), (AM 4, .inl (cY 0, 110, .inl kp)), (AM 5, .inl (cY 0, 8414, .inl td9)), (AM 6, .inl (cY 0, 2, .inl wn9)), (AM 13, .inl (cY 0, 4, .inl rw)), (AM 14, .inl (cY 0, 4, .inl br))]) [0, 1, 2, 3, 4, 5, 6, 7, 8] rfl
                have hDc := hD.sub (ws' := [(m0, .inr (8, mdL AM g9)), (AM 0, .inl (cY 0, 72, .inl tb)), (AM 2, .inl (cY 0, 22, .inl sA9)), (AM 3, .inl (cY 0, 22, .inl rd9)), (AM 4, .inl (cY 0, 110, .inl kp)), (AM 5, .inl (cY 0, 8414, .inl td9)), (AM 6, .inl (cY 0, 2, .inl wn9)), (AM 13, .inl (cY 0, 4, .inl rw)), (AM 14, .inl (cY 0, 4, .inl br))]) [0, 1, 2, 3, 4, 5, 6, 7, 8] (by decide) rfl
                have hFc := va_free (wc := [(m0, .inr (8, mdL AM g9)), (AM 0, .inl (cY 0, 72, .inl tb)), (AM 2, .inl (cY 0, 22, .inl sA9)), (AM 3, .inl (cY 0, 22, .inl rd9)), (AM 4, .inl (cY 0, 110, .inl kp)), (AM 5, .inl (cY 0, 8414, .inl td9)), (AM 6, .inl (cY 0, 2, .inl wn9)), (AM 13, .inl (cY 0, 4, .inl rw)), (AM 14, .inl (cY 0, 4, .inl br))]) hD hS hA [0, 1, 2, 3, 4, 5, 6, 7, 8] rfl
                refine va_callv (va_runV (As := [.int one, .int two]) (rest := []) ⟨hx, hb, hml, hown, hts⟩ (c_X8_frame l dC dI cY m0 AM g9 tb sA9 rd9 kp td9 wn9 rw br one two hs9 (by (try simp only [ez_46]); exact (isInput_ok hmv c_16)) (by (try simp only [ez_46]); exact (isInput_ok hmv c_29)) H.size) (cwV 2 hts gX8_play_X8_frame rfl rfl rfl (by decide +kernel) ⟨Nat.le_of_ble_eq_true rfl, Nat.le_of_ble_eq_true rfl⟩) ⟨blindW, va_recv hK hPc (ci := 8) (q0 := 0) rfl rfl, fun U hU hW => ⟨rfl, wPre_of hPc hK hN hDc U hU hW⟩⟩ rfl rfl hl.1 rfl (lv_room (Nat.le_of_ble_eq_true rfl)) dX8_play_74 ⟨Nat.zero_le _, Nat.zero_le _⟩) hS (fun q _ h => hFc q h) hFc (fun u t H1 locs ht hvm hw hB hz1 hk1 hS1 => ?_)
                have hJ := wJoin (wr := []) (w1 := [(m0, .inr (8, mdL AM (X8_frame_w0 g9 tb sA9 one two))), (AM 0, .inl (cY 0, 72, .inl tb)), (AM 2, .inl (cY 0, 22, .inl (X8_frame_w2 tb sA9 one two))), (AM 3, .inl (cY 0, 22, .inl rd9)), (AM 4, .inl (cY 0, 110, .inl kp)), (AM 5, .inl (cY 0, 8414, .inl td9)), (AM 6, .inl (cY 0, 2, .inl wn9)), (AM 13, .inl (cY 0, 4, .inl rw)), (AM 14, .inl (cY 0, 4, .inl br))]) (wn := [(m0, .inr (8, mdL AM (X8_frame_w0 g9 tb sA9 one two))), (AM 0, .inl (cY 0, 72, .inl tb)), (AM 2, .inl (cY 0, 22, .inl (X8_frame_w2 tb sA9 one two))), (AM 3, .inl (cY 0, 22, .inl rd9)), (AM 4, .inl (cY 0, 110, .inl kp)), (AM 5, .inl (cY 0, 8414, .inl td9)), (AM 6, .inl (cY 0, 2, .inl wn9)), (AM 13, .inl (cY 0, 4, .inl rw)), (AM 14, .inl (cY 0, 4, .inl br))]) hP hD [0, 1, 2, 3, 4, 5, 6, 7, 8] [] rfl rfl (by decide) (by decide) hk1 hFc hB ht [0, 1, 2, 3, 4, 5, 6, 7, 8] rfl (by decide)
                clear hB hk1 hFc hPc hDc hP hD hS hz1 hvm ht t
                obtain ⟨hP1, hD1⟩ := hJ
                generalize H1 = H at hP1 hS1 ⊢
                have hP : va_P (dC, dI) vwCl [(m0, .inr (8, mdL AM (X8_frame_w0 g9 tb sA9 one two))), (AM 0, .inl (cY 0, 72, .inl tb)), (AM 2, .inl (cY 0, 22, .inl (X8_frame_w2 tb sA9 one two))), (AM 3, .inl (cY 0, 22, .inl rd9)), (AM 4, .inl (cY 0, 110, .inl kp)), (AM 5, .inl (cY 0, 8414, .inl td9)), (AM 6, .inl (cY 0, 2, .inl wn9)), (AM 13, .inl (cY 0, 4, .inl rw)), (AM 14, .inl (cY 0, 4, .inl br))] H := hP1
                have hD : va_D A [(m0, .inr (8, mdL AM (X8_frame_w0 g9 tb sA9 one two))), (AM 0, .inl (cY 0, 72, .inl tb)), (AM 2, .inl (cY 0, 22, .inl (X8_frame_w2 tb sA9 one two))), (AM 3, .inl (cY 0, 22, .inl rd9)), (AM 4, .inl (cY 0, 110, .inl kp)), (AM 5, .inl (cY 0, 8414, .inl td9)), (AM 6, .inl (cY 0, 2, .inl wn9)), (AM 13, .inl (cY 0, 4, .inl rw)), (AM 14, .inl (cY 0, 4, .inl br))] := hD1
                have hS := hS1
                clear hP1 hD1 hS1
                obtain ⟨z_50, ez_50⟩ : ∃ z, z = (X8_frame_w0 g9 tb sA9 one two) := ⟨_, rfl⟩
                rw [← ez_50] at hP hD
                obtain ⟨z_51, ez_51⟩ : ∃ z, z = (X8_frame_w2 tb sA9 one two) := ⟨_, rfl⟩
                rw [← ez_51] at hP hD
                have hsz_51 : okS z_51 := by rw [ez_51]; exact okS_fr hs9 (isInput_ok hmv c_16) (isInput_ok hmv c_29)
                refine lv_aload_n hx hb dX8_play_77 rfl (lv_at hl 0 rfl) ?_
                refine lv_dup hx hb dX8_play_78 rfl ?_
                refine va_get (D := (dC, dI)) (ci := 8) (v := .int (z_50 7)) (C := RX8) (T := TX8) (N := 17) hx hb hts inw_X8_play_X8 hown hK hP 0 rfl rfl 7 (by decide) (hts (.fieldLink RX8 28 "DuelFramesModel" "frames" "I") (List.mem_of_getElem? (i := 2) rfl)) (fun _ h9 => h9) rfl dX8_play_79 ?_
                refine lv_iconst (v := 1) hx hb dX8_play_82 (by decide) ?_
                refine lv_iadd hx hb dX8_play_83 ?_
                refine va_put (D := (dC, dI)) (ci := 8) (v := .int ((z_50 7) + 1)) (ty := .int) (C := RX8) (T := TX8) (N := 17) hx hb hts inw_X8_play_X8 tyX8 tyX8_ok nmX8 hown hK hP hD hS 0 rfl rfl 7 (by decide) (hts (.fieldLink RX8 28 "DuelFramesModel" "frames" "I") (List.mem_of_getElem? (i := 2) rfl)) (fun _ h9 => h9) rfl (by decide +kernel) rfl rfl (Nat.le_of_ble_eq_true rfl) dX8_play_84 (fun H locs hP1 hD1 hS1 => ?_)
                clear hP hD hS
                have hP : va_P (dC, dI) vwCl [(m0, .inr (8, mdL AM (upd z_50 7 ((z_50 7) + 1)))), (AM 0, .inl (cY 0, 72, .inl tb)), (AM 2, .inl (cY 0, 22, .inl z_51)), (AM 3, .inl (cY 0, 22, .inl rd9)), (AM 4, .inl (cY 0, 110, .inl kp)), (AM 5, .inl (cY 0, 8414, .inl td9)), (AM 6, .inl (cY 0, 2, .inl wn9)), (AM 13, .inl (cY 0, 4, .inl rw)), (AM 14, .inl (cY 0, 4, .inl br))] H := hP1
                have hD : va_D A [(m0, .inr (8, mdL AM (upd z_50 7 ((z_50 7) + 1)))), (AM 0, .inl (cY 0, 72, .inl tb)), (AM 2, .inl (cY 0, 22, .inl z_51)), (AM 3, .inl (cY 0, 22, .inl rd9)), (AM 4, .inl (cY 0, 110, .inl kp)), (AM 5, .inl (cY 0, 8414, .inl td9)), (AM 6, .inl (cY 0, 2, .inl wn9)), (AM 13, .inl (cY 0, 4, .inl rw)), (AM 14, .inl (cY 0, 4, .inl br))] := hD1
                have hS := hS1
                clear hP1 hD1 hS1
                refine lv_aload_n hx hb dX8_play_87 rfl (lv_at hl 0 rfl) ?_
                have hPc := hP.sub (ws' := [(m0, .inr (8, mdL AM (upd z_50 7 ((z_50 7) + 1)))), (AM 0, .inl (cY 0, 72, .inl tb)), (AM 2, .inl (cY 0, 22, .inl z_51)), (AM 3, .inl (cY 0, 22, .inl rd9)), (AM 4, .inl (cY 0, 110, .inl kp)), (AM 5, .inl (cY 0, 8414, .inl td9)), (AM 6, .inl (cY 0, 2, .inl wn9)), (AM 13, .inl (cY 0, 4, .inl rw)), (AM 14, .inl (cY 0, 4, .inl br))]) [0, 1, 2, 3, 4, 5, 6, 7, 8] rfl
                have hDc := hD.sub (ws' := [(m0, .inr (8, mdL AM (upd z_50 7 ((z_50 7) + 1)))), (AM 0, .inl (cY 0, 72, .inl tb)), (AM 2, .inl (cY 0, 22, .inl z_51)), (AM 3, .inl (cY 0, 22, .inl rd9)), (AM 4, .inl (cY 0, 110, .inl kp)), (AM 5, .inl (cY 0, 8414, .inl td9)), (AM 6, .inl (cY 0, 2, .inl wn9)), (AM 13, .inl (cY 0, 4, .inl rw)), (AM 14, .inl (cY 0, 4, .inl br))]) [0, 1, 2, 3, 4, 5, 6, 7, 8] (by decide) rfl
                have hFc := va_free (wc := [(m0, .inr (8, mdL AM (upd z_50 7 ((z_50 7) + 1)))), (AM 0, .inl (cY 0, 72, .inl tb)), (AM 2, .inl (cY 0, 22, .inl z_51)), (AM 3, .inl (cY 0, 22, .inl rd9)), (AM 4, .inl (cY 0, 110, .inl kp)), (AM 5, .inl (cY 0, 8414, .inl td9)), (AM 6, .inl (cY 0, 2, .inl wn9)), (AM 13, .inl (cY 0, 4, .inl rw)), (AM 14, .inl (cY 0, 4, .inl br))]) hD hS hA [0, 1, 2, 3, 4, 5, 6, 7, 8] rfl
                refine va_callv (va_runV (As := []) (rest := []) ⟨hx, hb, hml, hown, hts⟩ (c_X8_store l dC dI cY m0 AM (upd z_50 7 ((z_50 7) + 1)) tb z_51 rd9 kp td9 wn9 rw br (by (try simp only [ez_51, ez_50, ez_46]); exact (fr_s (hg9 c_48))) H.size) (cwV 0 hts gX8_play_X8_store rfl rfl rfl (by decide +kernel) ⟨Nat.le_of_ble_eq_true rfl, Nat.le_of_ble_eq_true rfl⟩) ⟨blindW, va_recv hK hPc (ci := 8) (q0 := 0) rfl rfl, fun U hU hW => ⟨rfl, wPre_of hPc hK hN hDc U hU hW⟩⟩ rfl rfl hl.1 rfl (lv_room (Nat.le_of_ble_eq_true rfl)) dX8_play_88 ⟨Nat.zero_le _, Nat.zero_le _⟩) hS (fun q _ h => hFc q h) hFc (fun u t H1 locs ht hvm hw hB hz1 hk1 hS1 => ?_)
                have hJ := wJoin (wr := []) (w1 := [(m0, .inr (8, mdL AM (upd z_50 7 ((z_50 7) + 1)))), (AM 0, .inl (cY 0, 72, .inl tb)), (AM 2, .inl (cY 0, 22, .inl z_51)), (AM 3, .inl (cY 0, 22, .inl (X8_store_w3 z_51 rd9))), (AM 4, .inl (cY 0, 110, .inl kp)), (AM 5, .inl (cY 0, 8414, .inl (X8_store_w5 (upd z_50 7 ((z_50 7) + 1)) z_51 td9))), (AM 6, .inl (cY 0, 2, .inl wn9)), (AM 13, .inl (cY 0, 4, .inl rw)), (AM 14, .inl (cY 0, 4, .inl br))]) (wn := [(m0, .inr (8, mdL AM (upd z_50 7 ((z_50 7) + 1)))), (AM 0, .inl (cY 0, 72, .inl tb)), (AM 2, .inl (cY 0, 22, .inl z_51)), (AM 3, .inl (cY 0, 22, .inl (X8_store_w3 z_51 rd9))), (AM 4, .inl (cY 0, 110, .inl kp)), (AM 5, .inl (cY 0, 8414, .inl (X8_store_w5 (upd z_50 7 ((z_50 7) + 1)) z_51 td9))), (AM 6, .inl (cY 0, 2, .inl wn9)), (AM 13, .inl (cY 0, 4, .inl rw)), (AM 14, .inl (cY 0, 4, .inl br))]) hP hD [0, 1, 2, 3, 4, 5, 6, 7, 8] [] rfl rfl (by decide) (by decide) hk1 hFc hB ht [0, 1, 2, 3, 4, 5, 6, 7, 8] rfl (by decide)
                clear hB hk1 hFc hPc hDc hP hD hS hz1 hvm ht t
                obtain ⟨hP1, hD1⟩ := hJ
                generalize H1 = H at hP1 hS1 ⊢
                have hP : va_P (dC, dI) vwCl [(m0, .inr (8, mdL AM (upd z_50 7 ((z_50 7) + 1)))), (AM 0, .inl (cY 0, 72, .inl tb)), (AM 2, .inl (cY 0, 22, .inl z_51)), (AM 3, .inl (cY 0, 22, .inl (X8_store_w3 z_51 rd9))), (AM 4, .inl (cY 0, 110, .inl kp)), (AM 5, .inl (cY 0, 8414, .inl (X8_store_w5 (upd z_50 7 ((z_50 7) + 1)) z_51 td9))), (AM 6, .inl (cY 0, 2, .inl wn9)), (AM 13, .inl (cY 0, 4, .inl rw)), (AM 14, .inl (cY 0, 4, .inl br))] H := hP1
                have hD : va_D A [(m0, .inr (8, mdL AM (upd z_50 7 ((z_50 7) + 1)))), (AM 0, .inl (cY 0, 72, .inl tb)), (AM 2, .inl (cY 0, 22, .inl z_51)), (AM 3, .inl (cY 0, 22, .inl (X8_store_w3 z_51 rd9))), (AM 4, .inl (cY 0, 110, .inl kp)), (AM 5, .inl (cY 0, 8414, .inl (X8_store_w5 (upd z_50 7 ((z_50 7) + 1)) z_51 td9))), (AM 6, .inl (cY 0, 2, .inl wn9)), (AM 13, .inl (cY 0, 4, .inl rw)), (AM 14, .inl (cY 0, 4, .inl br))] := hD1
                have hS := hS1
                clear hP1 hD1 hS1
                obtain ⟨z_53, ez_53⟩ : ∃ z, z = (X8_store_w3 z_51 rd9) := ⟨_, rfl⟩
                rw [← ez_53] at hP hD
                obtain ⟨z_54, ez_54⟩ : ∃ z, z = (X8_store_w5 (upd z_50 7 ((z_50 7) + 1)) z_51 td9) := ⟨_, rfl⟩
                rw [← ez_54] at hP hD
                refine lv_aload_n hx hb dX8_play_91 rfl (lv_at hl 0 rfl) ?_
                refine va_get (D := (dC, dI)) (ci := 8) (v := .ref (AM 2)) (C := RX8) (T := TX8) (N := 17) hx hb hts inw_X8_play_X8 hown hK hP 0 rfl rfl 2 (by decide) (hts (.fieldLink RX8 13 "DuelFramesModel" "s" "[I") (List.mem_of_getElem? (i := 3) rfl)) (fun _ h9 => h9) rfl dX8_play_92 ?_
                refine lv_iconst (v := 1) hx hb dX8_play_95 (by decide) ?_
                refine va_iald hx hb hK hP 2 0 rfl rfl (vin rfl) dX8_play_96 ?_
                refine lv_topi (fun x_55 ex_55 => ?_)
                obtain rfl : x_55 = (z_51 1) := ex_55
                refine lv_if_le (tgt := 120) hx hb dX8_play_97 (by decide) (fun c_56 => ?_) (fun c_56 => ?_)
                · refine lv_aload_n hx hb dX8_play_120 rfl (lv_at hl 0 rfl) ?_
                  have hPc := hP.sub (ws' := [(m0, .inr (8, mdL AM (upd z_50 7 ((z_50 7) + 1)))), (AM 0, .inl (cY 0, 72, .inl tb)), (AM 2, .inl (cY 0, 22, .inl z_51)), (AM 3, .inl (cY 0, 22, .inl z_53)), (AM 4, .inl (cY 0, 110, .inl kp)), (AM 5, .inl (cY 0, 8414, .inl z_54)), (AM 6, .inl (cY 0, 2, .inl wn9)), (AM 13, .inl (cY 0, 4, .inl rw)), (AM 14, .inl (cY 0, 4, .inl br))]) [0, 1, 2, 3, 4, 5, 6, 7, 8] rfl
                  have hDc := hD.sub (ws' := [(m0, .inr (8, mdL AM (upd z_50 7 ((z_50 7) + 1)))), (AM 0, .inl (cY 0, 72, .inl tb)), (AM 2, .inl (cY 0, 22, .inl z_51)), (AM 3, .inl (cY 0, 22, .inl z_53)), (AM 4, .inl (cY 0, 110, .inl kp)), (AM 5, .inl (cY 0, 8414, .inl z_54)), (AM 6, .inl (cY 0, 2, .inl wn9)), (AM 13, .inl (cY 0, 4, .inl rw)), (AM 14, .inl (cY 0, 4, .inl br))]) [0, 1, 2, 3, 4, 5, 6, 7, 8] (by decide) rfl
                  have hFc := va_free (wc := [(m0, .inr (8, mdL AM (upd z_50 7 ((z_50 7) + 1)))), (AM 0, .inl (cY 0, 72, .inl tb)), (AM 2, .inl (cY 0, 22, .inl z_51)), (AM 3, .inl (cY 0, 22, .inl z_53)), (AM 4, .inl (cY 0, 110, .inl kp)), (AM 5, .inl (cY 0, 8414, .inl z_54)), (AM 6, .inl (cY 0, 2, .inl wn9)), (AM 13, .inl (cY 0, 4, .inl rw)), (AM 14, .inl (cY 0, 4, .inl br))]) hD hS hA [0, 1, 2, 3, 4, 5, 6, 7, 8] rfl
                  refine va_callv (va_runV (As := []) (rest := []) ⟨hx, hb, hml, hown, hts⟩ (c_X8_endRound l dC dI cY m0 AM (upd z_50 7 ((z_50 7) + 1)) tb z_51 z_53 kp z_54 wn9 rw br H.size) (cwV 0 hts gX8_play_X8_endRound rfl rfl rfl (by decide +kernel) ⟨Nat.le_of_ble_eq_true rfl, Nat.le_of_ble_eq_true rfl⟩) ⟨blindW, va_recv hK hPc (ci := 8) (q0 := 0) rfl rfl, fun U hU hW => ⟨rfl, wPre_of hPc hK hN hDc U hU hW⟩⟩ rfl rfl hl.1 rfl (lv_room (Nat.le_of_ble_eq_true rfl)) dX8_play_121 ⟨Nat.zero_le _, Nat.zero_le _⟩) hS (fun q _ h => hFc q h) hFc (fun u t H1 locs ht hvm hw hB hz1 hk1 hS1 => ?_)
                  have hJ := wJoin (wr := []) (w1 := [(m0, .inr (8, mdL AM (X8_endRound_w0 (upd z_50 7 ((z_50 7) + 1)) z_51 wn9))), (AM 0, .inl (cY 0, 72, .inl tb)), (AM 2, .inl (cY 0, 22, .inl z_51)), (AM 3, .inl (cY 0, 22, .inl z_53)), (AM 4, .inl (cY 0, 110, .inl kp)), (AM 5, .inl (cY 0, 8414, .inl z_54)), (AM 6, .inl (cY 0, 2, .inl (X8_endRound_w6 z_51 wn9))), (AM 13, .inl (cY 0, 4, .inl rw)), (AM 14, .inl (cY 0, 4, .inl br))]) (wn := [(m0, .inr (8, mdL AM (X8_endRound_w0 (upd z_50 7 ((z_50 7) + 1)) z_51 wn9))), (AM 0, .inl (cY 0, 72, .inl tb)), (AM 2, .inl (cY 0, 22, .inl z_51)), (AM 3, .inl (cY 0, 22, .inl z_53)), (AM 4, .inl (cY 0, 110, .inl kp)), (AM 5, .inl (cY 0, 8414, .inl z_54)), (AM 6, .inl (cY 0, 2, .inl (X8_endRound_w6 z_51 wn9))), (AM 13, .inl (cY 0, 4, .inl rw)), (AM 14, .inl (cY 0, 4, .inl br))]) hP hD [0, 1, 2, 3, 4, 5, 6, 7, 8] [] rfl rfl (by decide) (by decide) hk1 hFc hB ht [0, 1, 2, 3, 4, 5, 6, 7, 8] rfl (by decide)
                  clear hB hk1 hFc hPc hDc hP hD hS hz1 hvm ht t
                  obtain ⟨hP1, hD1⟩ := hJ
                  generalize H1 = H at hP1 hS1 ⊢
                  have hP : va_P (dC, dI) vwCl [(m0, .inr (8, mdL AM (X8_endRound_w0 (upd z_50 7 ((z_50 7) + 1)) z_51 wn9))), (AM 0, .inl (cY 0, 72, .inl tb)), (AM 2, .inl (cY 0, 22, .inl z_51)), (AM 3, .inl (cY 0, 22, .inl z_53)), (AM 4, .inl (cY 0, 110, .inl kp)), (AM 5, .inl (cY 0, 8414, .inl z_54)), (AM 6, .inl (cY 0, 2, .inl (X8_endRound_w6 z_51 wn9))), (AM 13, .inl (cY 0, 4, .inl rw)), (AM 14, .inl (cY 0, 4, .inl br))] H := hP1
                  have hD : va_D A [(m0, .inr (8, mdL AM (X8_endRound_w0 (upd z_50 7 ((z_50 7) + 1)) z_51 wn9))), (AM 0, .inl (cY 0, 72, .inl tb)), (AM 2, .inl (cY 0, 22, .inl z_51)), (AM 3, .inl (cY 0, 22, .inl z_53)), (AM 4, .inl (cY 0, 110, .inl kp)), (AM 5, .inl (cY 0, 8414, .inl z_54)), (AM 6, .inl (cY 0, 2, .inl (X8_endRound_w6 z_51 wn9))), (AM 13, .inl (cY 0, 4, .inl rw)), (AM 14, .inl (cY 0, 4, .inl br))] := hD1
                  have hS := hS1
                  clear hP1 hD1 hS1
                  obtain ⟨z_58, ez_58⟩ : ∃ z, z = (X8_endRound_w0 (upd z_50 7 ((z_50 7) + 1)) z_51 wn9) := ⟨_, rfl⟩
                  rw [← ez_58] at hP hD
                  obtain ⟨z_59, ez_59⟩ : ∃ z, z = (X8_endRound_w6 z_51 wn9) := ⟨_, rfl⟩
                  rw [← ez_59] at hP hD
                  refine lv_iinc (v := ((nI j) + 1)) (lv' := [(4, .int ((nI j) + 1)), (0, .ref m0), (1, .int many), (2, .int one), (3, .int two)]) hx hb dX8_play_124 hl (k := 4) rfl (by first | rfl | decide) (by decide) rfl (fun ls hl => ?_)
                  refine lv_goto (tgt := 58) hx hb dX8_play_127 (by decide) ?_
                  have e_60 : (X8_play_L58_g9 tb g9 one sA9 two wn9) = z_58 := by rw [X8_play_L58_g9]; simp only [← ez_46, ← ez_50, ← ez_51, ← ez_53, ← ez_54, ← ez_58, ← ez_59, eq_true c_56, ↓reduceIte]
                  have e_61 : (X8_play_L58_wn9 tb g9 one sA9 two wn9) = z_59 := by rw [X8_play_L58_wn9]; simp only [← ez_46, ← ez_50, ← ez_51, ← ez_53, ← ez_54, ← ez_58, ← ez_59, eq_true c_56, ↓reduceIte]
                  have hP9 : va_P (dC, dI) vwCl [(m0, .inr (8, mdL AM (X8_play_L58_g9 tb g9 one sA9 two wn9))), (AM 0, .inl (cY 0, 72, .inl tb)), (AM 2, .inl (cY 0, 22, .inl z_51)), (AM 3, .inl (cY 0, 22, .inl z_53)), (AM 4, .inl (cY 0, 110, .inl kp)), (AM 5, .inl (cY 0, 8414, .inl z_54)), (AM 6, .inl (cY 0, 2, .inl (X8_play_L58_wn9 tb g9 one sA9 two wn9))), (AM 13, .inl (cY 0, 4, .inl rw)), (AM 14, .inl (cY 0, 4, .inl br))] H := by simp only [e_60, e_61]; exact hP
                  have hD9 : va_D A [(m0, .inr (8, mdL AM (X8_play_L58_g9 tb g9 one sA9 two wn9))), (AM 0, .inl (cY 0, 72, .inl tb)), (AM 2, .inl (cY 0, 22, .inl z_51)), (AM 3, .inl (cY 0, 22, .inl z_53)), (AM 4, .inl (cY 0, 110, .inl kp)), (AM 5, .inl (cY 0, 8414, .inl z_54)), (AM 6, .inl (cY 0, 2, .inl (X8_play_L58_wn9 tb g9 one sA9 two wn9))), (AM 13, .inl (cY 0, 4, .inl rw)), (AM 14, .inl (cY 0, 4, .inl br))] := by simp only [e_60, e_61]; exact hD
                  have hl9 : lv_has ls 5 [(0, .ref m0), (1, .int many), (2, .int one), (3, .int two), (4, .int (nI (j + 1)))] := by rw [show nI (j + 1) = nI j + 1 from nI_succ _]; (try simp only [e_60, e_61]); exact lv_sub hl [1, 2, 3, 4, 0] rfl
                  replace hk := hk ((X8_play_L58_g9 tb g9 one sA9 two wn9), z_51, z_53, z_54, (X8_play_L58_wn9 tb g9 one sA9 two wn9))
                  (try dsimp only at hk)
                  exact hk ⟨by rw [hi.1, show 60 - j = (60 - (j + 1)) + 1 by omega, X8_ply_run_s]; simp only [← ez_46, ← ez_50, ← ez_51, ← ez_53, ← ez_54, ← ez_58, ← ez_59, eq_false c_47, eq_false c_48, ↓reduceIte], hsz_51, (fun q => by rw [e_60] at q; exact absurd (by rw [ez_58]; exact er9) q)⟩ _ _ _ hP9 hD9 hS hl9
                · refine lv_aload_n hx hb dX8_play_100 rfl (lv_at hl 0 rfl) ?_
                  refine va_get (D := (dC, dI)) (ci := 8) (v := .ref (AM 2)) (C := RX8) (T := TX8) (N := 17) hx hb hts inw_X8_play_X8 hown hK hP 0 rfl rfl 2 (by decide) (hts (.fieldLink RX8 13 "DuelFramesModel" "s" "[I") (List.mem_of_getElem? (i := 3) rfl)) (fun _ h9 => h9) rfl dX8_play_101 ?_
                  refine lv_bipush (v := 12) hx hb dX8_play_104 (by decide) ?_
                  refine va_iald hx hb hK hP 2 0 rfl rfl (vin rfl) dX8_play_106 ?_
                  refine lv_topi (fun x_62 ex_62 => ?_)
                  obtain rfl : x_62 = (z_51 12) := ex_62
                  refine lv_if_le (tgt := 120) hx hb dX8_play_107 (by decide) (fun c_63 => ?_) (fun c_63 => ?_)
                  · refine lv_aload_n hx hb dX8_play_120 rfl (lv_at hl 0 rfl) ?_
                    have hPc := hP.sub (ws' := [(m0, .inr (8, mdL AM (upd z_50 7 ((z_50 7) + 1)))), (AM 0, .inl (cY 0, 72, .inl tb)), (AM 2, .inl (cY 0, 22, .inl z_51)), (AM 3, .inl (cY 0, 22, .inl z_53)), (AM 4, .inl (cY 0, 110, .inl kp)), (AM 5, .inl (cY 0, 8414, .inl z_54)), (AM 6, .inl (cY 0, 2, .inl wn9)), (AM 13, .inl (cY 0, 4, .inl rw)), (AM 14, .inl (cY 0, 4, .inl br))]) [0, 1, 2, 3, 4, 5, 6, 7, 8] rfl
                    have hDc := hD.sub (ws' := [(m0, .inr (8, mdL AM (upd z_50 7 ((z_50 7) + 1)))), (AM 0, .inl (cY 0, 72, .inl tb)), (AM 2, .inl (cY 0, 22, .inl z_51)), (AM 3, .inl (cY 0, 22, .inl z_53)), (AM 4, .inl (cY 0, 110, .inl kp)), (AM 5, .inl (cY 0, 8414, .inl z_54)), (AM 6, .inl (cY 0, 2, .inl wn9)), (AM 13, .inl (cY 0, 4, .inl rw)), (AM 14, .inl (cY 0, 4, .inl br))]) [0, 1, 2, 3, 4, 5, 6, 7, 8] (by decide) rfl
                    have hFc := va_free (wc := [(m0, .inr (8, mdL AM (upd z_50 7 ((z_50 7) + 1)))), (AM 0, .inl (cY 0, 72, .inl tb)), (AM 2, .inl (cY 0, 22, .inl z_51)), (AM 3, .inl (cY 0, 22, .inl z_53)), (AM 4, .inl (cY 0, 110, .inl kp)), (AM 5, .inl (cY 0, 8414, .inl z_54)), (AM 6, .inl (cY 0, 2, .inl wn9)), (AM 13, .inl (cY 0, 4, .inl rw)), (AM 14, .inl (cY 0, 4, .inl br))]) hD hS hA [0, 1, 2, 3, 4, 5, 6, 7, 8] rfl
                    refine va_callv (va_runV (As := []) (rest := []) ⟨hx, hb, hml, hown, hts⟩ (c_X8_endRound l dC dI cY m0 AM (upd z_50 7 ((z_50 7) + 1)) tb z_51 z_53 kp z_54 wn9 rw br H.size) (cwV 0 hts gX8_play_X8_endRound rfl rfl rfl (by decide +kernel) ⟨Nat.le_of_ble_eq_true rfl, Nat.le_of_ble_eq_true rfl⟩) ⟨blindW, va_recv hK hPc (ci := 8) (q0 := 0) rfl rfl, fun U hU hW => ⟨rfl, wPre_of hPc hK hN hDc U hU hW⟩⟩ rfl rfl hl.1 rfl (lv_room (Nat.le_of_ble_eq_true rfl)) dX8_play_121 ⟨Nat.zero_le _, Nat.zero_le _⟩) hS (fun q _ h => hFc q h) hFc (fun u t H1 locs ht hvm hw hB hz1 hk1 hS1 => ?_)
                    have hJ := wJoin (wr := []) (w1 := [(m0, .inr (8, mdL AM (X8_endRound_w0 (upd z_50 7 ((z_50 7) + 1)) z_51 wn9))), (AM 0, .inl (cY 0, 72, .inl tb)), (AM 2, .inl (cY 0, 22, .inl z_51)), (AM 3, .inl (cY 0, 22, .inl z_53)), (AM 4, .inl (cY 0, 110, .inl kp)), (AM 5, .inl (cY 0, 8414, .inl z_54)), (AM 6, .inl (cY 0, 2, .inl (X8_endRound_w6 z_51 wn9))), (AM 13, .inl (cY 0, 4, .inl rw)), (AM 14, .inl (cY 0, 4, .inl br))]) (wn := [(m0, .inr (8, mdL AM (X8_endRound_w0 (upd z_50 7 ((z_50 7) + 1)) z_51 wn9))), (AM 0, .inl (cY 0, 72, .inl tb)), (AM 2, .inl (cY 0, 22, .inl z_51)), (AM 3, .inl (cY 0, 22, .inl z_53)), (AM 4, .inl (cY 0, 110, .inl kp)), (AM 5, .inl (cY 0, 8414, .inl z_54)), (AM 6, .inl (cY 0, 2, .inl (X8_endRound_w6 z_51 wn9))), (AM 13, .inl (cY 0, 4, .inl rw)), (AM 14, .inl (cY 0, 4, .inl br))]) hP hD [0, 1, 2, 3, 4, 5, 6, 7, 8] [] rfl rfl (by decide) (by decide) hk1 hFc hB ht [0, 1, 2, 3, 4, 5, 6, 7, 8] rfl (by decide)
                    clear hB hk1 hFc hPc hDc hP hD hS hz1 hvm ht t
                    obtain ⟨hP1, hD1⟩ := hJ
                    generalize H1 = H at hP1 hS1 ⊢
                    have hP : va_P (dC, dI) vwCl [(m0, .inr (8, mdL AM (X8_endRound_w0 (upd z_50 7 ((z_50 7) + 1)) z_51 wn9))), (AM 0, .inl (cY 0, 72, .inl tb)), (AM 2, .inl (cY 0, 22, .inl z_51)), (AM 3, .inl (cY 0, 22, .inl z_53)), (AM 4, .inl (cY 0, 110, .inl kp)), (AM 5, .inl (cY 0, 8414, .inl z_54)), (AM 6, .inl (cY 0, 2, .inl (X8_endRound_w6 z_51 wn9))), (AM 13, .inl (cY 0, 4, .inl rw)), (AM 14, .inl (cY 0, 4, .inl br))] H := hP1
                    have hD : va_D A [(m0, .inr (8, mdL AM (X8_endRound_w0 (upd z_50 7 ((z_50 7) + 1)) z_51 wn9))), (AM 0, .inl (cY 0, 72, .inl tb)), (AM 2, .inl (cY 0, 22, .inl z_51)), (AM 3, .inl (cY 0, 22, .inl z_53)), (AM 4, .inl (cY 0, 110, .inl kp)), (AM 5, .inl (cY 0, 8414, .inl z_54)), (AM 6, .inl (cY 0, 2, .inl (X8_endRound_w6 z_51 wn9))), (AM 13, .inl (cY 0, 4, .inl rw)), (AM 14, .inl (cY 0, 4, .inl br))] := hD1
                    have hS := hS1
                    clear hP1 hD1 hS1
                    obtain ⟨z_65, ez_65⟩ : ∃ z, z = (X8_endRound_w0 (upd z_50 7 ((z_50 7) + 1)) z_51 wn9) := ⟨_, rfl⟩
                    rw [← ez_65] at hP hD
                    obtain ⟨z_66, ez_66⟩ : ∃ z, z = (X8_endRound_w6 z_51 wn9) := ⟨_, rfl⟩
                    rw [← ez_66] at hP hD
                    refine lv_iinc (v := ((nI j) + 1)) (lv' := [(4, .int ((nI j) + 1)), (0, .ref m0), (1, .int many), (2, .int one), (3, .int two)]) hx hb dX8_play_124 hl (k := 4) rfl (by first | rfl | decide) (by decide) rfl (fun ls hl => ?_)
                    refine lv_goto (tgt := 58) hx hb dX8_play_127 (by decide) ?_
                    have e_67 : (X8_play_L58_g9 tb g9 one sA9 two wn9) = z_65 := by rw [X8_play_L58_g9]; simp only [← ez_46, ← ez_50, ← ez_51, ← ez_53, ← ez_54, ← ez_65, ← ez_66, eq_false c_56, eq_true c_63, ↓reduceIte]
                    have e_68 : (X8_play_L58_wn9 tb g9 one sA9 two wn9) = z_66 := by rw [X8_play_L58_wn9]; simp only [← ez_46, ← ez_50, ← ez_51, ← ez_53, ← ez_54, ← ez_65, ← ez_66, eq_false c_56, eq_true c_63, ↓reduceIte]
                    have hP9 : va_P (dC, dI) vwCl [(m0, .inr (8, mdL AM (X8_play_L58_g9 tb g9 one sA9 two wn9))), (AM 0, .inl (cY 0, 72, .inl tb)), (AM 2, .inl (cY 0, 22, .inl z_51)), (AM 3, .inl (cY 0, 22, .inl z_53)), (AM 4, .inl (cY 0, 110, .inl kp)), (AM 5, .inl (cY 0, 8414, .inl z_54)), (AM 6, .inl (cY 0, 2, .inl (X8_play_L58_wn9 tb g9 one sA9 two wn9))), (AM 13, .inl (cY 0, 4, .inl rw)), (AM 14, .inl (cY 0, 4, .inl br))] H := by simp only [e_67, e_68]; exact hP
                    have hD9 : va_D A [(m0, .inr (8, mdL AM (X8_play_L58_g9 tb g9 one sA9 two wn9))), (AM 0, .inl (cY 0, 72, .inl tb)), (AM 2, .inl (cY 0, 22, .inl z_51)), (AM 3, .inl (cY 0, 22, .inl z_53)), (AM 4, .inl (cY 0, 110, .inl kp)), (AM 5, .inl (cY 0, 8414, .inl z_54)), (AM 6, .inl (cY 0, 2, .inl (X8_play_L58_wn9 tb g9 one sA9 two wn9))), (AM 13, .inl (cY 0, 4, .inl rw)), (AM 14, .inl (cY 0, 4, .inl br))] := by simp only [e_67, e_68]; exact hD
                    have hl9 : lv_has ls 5 [(0, .ref m0), (1, .int many), (2, .int one), (3, .int two), (4, .int (nI (j + 1)))] := by rw [show nI (j + 1) = nI j + 1 from nI_succ _]; (try simp only [e_67, e_68]); exact lv_sub hl [1, 2, 3, 4, 0] rfl
                    replace hk := hk ((X8_play_L58_g9 tb g9 one sA9 two wn9), z_51, z_53, z_54, (X8_play_L58_wn9 tb g9 one sA9 two wn9))
                    (try dsimp only at hk)
                    exact hk ⟨by rw [hi.1, show 60 - j = (60 - (j + 1)) + 1 by omega, X8_ply_run_s]; simp only [← ez_46, ← ez_50, ← ez_51, ← ez_53, ← ez_54, ← ez_65, ← ez_66, eq_false c_47, eq_false c_48, ↓reduceIte], hsz_51, (fun q => by rw [e_67] at q; exact absurd (by rw [ez_65]; exact er9) q)⟩ _ _ _ hP9 hD9 hS hl9
                  · refine lv_aload_n hx hb dX8_play_110 rfl (lv_at hl 0 rfl) ?_
                    refine va_get (D := (dC, dI)) (ci := 8) (v := .int ((z_50 7) + 1)) (C := RX8) (T := TX8) (N := 17) hx hb hts inw_X8_play_X8 hown hK hP 0 rfl rfl 7 (by decide) (hts (.fieldLink RX8 28 "DuelFramesModel" "frames" "I") (List.mem_of_getElem? (i := 2) rfl)) (fun _ h9 => h9) rfl dX8_play_111 ?_
                    refine lv_sipush (v := 600) hx hb dX8_play_114 (by decide) ?_
                    refine lv_icmp_ne (tgt := 124) hx hb dX8_play_117 (by decide) (fun c_69 => ?_) (fun c_69 => ?_)
                    · refine lv_iinc (v := ((nI j) + 1)) (lv' := [(4, .int ((nI j) + 1)), (0, .ref m0), (1, .int many), (2, .int one), (3, .int two)]) hx hb dX8_play_124 hl (k := 4) rfl (by first | rfl | decide) (by decide) rfl (fun ls hl => ?_)
                      refine lv_goto (tgt := 58) hx hb dX8_play_127 (by decide) ?_
                      have e_70 : (X8_play_L58_g9 tb g9 one sA9 two wn9) = (upd z_50 7 ((z_50 7) + 1)) := by rw [X8_play_L58_g9]; simp only [← ez_46, ← ez_50, ← ez_51, ← ez_53, ← ez_54, eq_false c_56, eq_false c_63, eq_false c_69, ↓reduceIte]
                      have e_71 : (X8_play_L58_wn9 tb g9 one sA9 two wn9) = wn9 := by rw [X8_play_L58_wn9]; simp only [← ez_46, ← ez_50, ← ez_51, ← ez_53, ← ez_54, eq_false c_56, eq_false c_63, eq_false c_69, ↓reduceIte]
                      have hP9 : va_P (dC, dI) vwCl [(m0, .inr (8, mdL AM (X8_play_L58_g9 tb g9 one sA9 two wn9))), (AM 0, .inl (cY 0, 72, .inl tb)), (AM 2, .inl (cY 0, 22, .inl z_51)), (AM 3, .inl (cY 0, 22, .inl z_53)), (AM 4, .inl (cY 0, 110, .inl kp)), (AM 5, .inl (cY 0, 8414, .inl z_54)), (AM 6, .inl (cY 0, 2, .inl (X8_play_L58_wn9 tb g9 one sA9 two wn9))), (AM 13, .inl (cY 0, 4, .inl rw)), (AM 14, .inl (cY 0, 4, .inl br))] H := by simp only [e_70, e_71]; exact hP
                      have hD9 : va_D A [(m0, .inr (8, mdL AM (X8_play_L58_g9 tb g9 one sA9 two wn9))), (AM 0, .inl (cY 0, 72, .inl tb)), (AM 2, .inl (cY 0, 22, .inl z_51)), (AM 3, .inl (cY 0, 22, .inl z_53)), (AM 4, .inl (cY 0, 110, .inl kp)), (AM 5, .inl (cY 0, 8414, .inl z_54)), (AM 6, .inl (cY 0, 2, .inl (X8_play_L58_wn9 tb g9 one sA9 two wn9))), (AM 13, .inl (cY 0, 4, .inl rw)), (AM 14, .inl (cY 0, 4, .inl br))] := by simp only [e_70, e_71]; exact hD
                      have hl9 : lv_has ls 5 [(0, .ref m0), (1, .int many), (2, .int one), (3, .int two), (4, .int (nI (j + 1)))] := by rw [show nI (j + 1) = nI j + 1 from nI_succ _]; (try simp only [e_70, e_71]); exact lv_sub hl [1, 2, 3, 4, 0] rfl
                      replace hk := hk ((X8_play_L58_g9 tb g9 one sA9 two wn9), z_51, z_53, z_54, (X8_play_L58_wn9 tb g9 one sA9 two wn9))
                      (try dsimp only at hk)
                      exact hk ⟨by rw [hi.1, show 60 - j = (60 - (j + 1)) + 1 by omega, X8_ply_run_s]; simp only [← ez_46, ← ez_50, ← ez_51, ← ez_53, ← ez_54, eq_false c_47, eq_false c_48, ↓reduceIte], hsz_51, (fun _ => by rw [e_70]; exact fr_next (by rw [ez_50]; exact hg9 c_48) c_69)⟩ _ _ _ hP9 hD9 hS hl9
                    · refine lv_aload_n hx hb dX8_play_120 rfl (lv_at hl 0 rfl) ?_
                      have hPc := hP.sub (ws' := [(m0, .inr (8, mdL AM (upd z_50 7 ((z_50 7) + 1)))), (AM 0, .inl (cY 0, 72, .inl tb)), (AM 2, .inl (cY 0, 22, .inl z_51)), (AM 3, .inl (cY 0, 22, .inl z_53)), (AM 4, .inl (cY 0, 110, .inl kp)), (AM 5, .inl (cY 0, 8414, .inl z_54)), (AM 6, .inl (cY 0, 2, .inl wn9)), (AM 13, .inl (cY 0, 4, .inl rw)), (AM 14, .inl (cY 0, 4, .inl br))]) [0, 1, 2, 3, 4, 5, 6, 7, 8] rfl
                      have hDc := hD.sub (ws' := [(m0, .inr (8, mdL AM (upd z_50 7 ((z_50 7) + 1)))), (AM 0, .inl (cY 0, 72, .inl tb)), (AM 2, .inl (cY 0, 22, .inl z_51)), (AM 3, .inl (cY 0, 22, .inl z_53)), (AM 4, .inl (cY 0, 110, .inl kp)), (AM 5, .inl (cY 0, 8414, .inl z_54)), (AM 6, .inl (cY 0, 2, .inl wn9)), (AM 13, .inl (cY 0, 4, .inl rw)), (AM 14, .inl (cY 0, 4, .inl br))]) [0, 1, 2, 3, 4, 5, 6, 7, 8] (by decide) rfl
                      have hFc := va_free (wc := [(m0, .inr (8, mdL AM (upd z_50 7 ((z_50 7) + 1)))), (AM 0, .inl (cY 0, 72, .inl tb)), (AM 2, .inl (cY 0, 22, .inl z_51)), (AM 3, .inl (cY 0, 22, .inl z_53)), (AM 4, .inl (cY 0, 110, .inl kp)), (AM 5, .inl (cY 0, 8414, .inl z_54)), (AM 6, .inl (cY 0, 2, .inl wn9)), (AM 13, .inl (cY 0, 4, .inl rw)), (AM 14, .inl (cY 0, 4, .inl br))]) hD hS hA [0, 1, 2, 3, 4, 5, 6, 7, 8] rfl
                      refine va_callv (va_runV (As := []) (rest := []) ⟨hx, hb, hml, hown, hts⟩ (c_X8_endRound l dC dI cY m0 AM (upd z_50 7 ((z_50 7) + 1)) tb z_51 z_53 kp z_54 wn9 rw br H.size) (cwV 0 hts gX8_play_X8_endRound rfl rfl rfl (by decide +kernel) ⟨Nat.le_of_ble_eq_true rfl, Nat.le_of_ble_eq_true rfl⟩) ⟨blindW, va_recv hK hPc (ci := 8) (q0 := 0) rfl rfl, fun U hU hW => ⟨rfl, wPre_of hPc hK hN hDc U hU hW⟩⟩ rfl rfl hl.1 rfl (lv_room (Nat.le_of_ble_eq_true rfl)) dX8_play_121 ⟨Nat.zero_le _, Nat.zero_le _⟩) hS (fun q _ h => hFc q h) hFc (fun u t H1 locs ht hvm hw hB hz1 hk1 hS1 => ?_)
                      have hJ := wJoin (wr := []) (w1 := [(m0, .inr (8, mdL AM (X8_endRound_w0 (upd z_50 7 ((z_50 7) + 1)) z_51 wn9))), (AM 0, .inl (cY 0, 72, .inl tb)), (AM 2, .inl (cY 0, 22, .inl z_51)), (AM 3, .inl (cY 0, 22, .inl z_53)), (AM 4, .inl (cY 0, 110, .inl kp)), (AM 5, .inl (cY 0, 8414, .inl z_54)), (AM 6, .inl (cY 0, 2, .inl (X8_endRound_w6 z_51 wn9))), (AM 13, .inl (cY 0, 4, .inl rw)), (AM 14, .inl (cY 0, 4, .inl br))]) (wn := [(m0, .inr (8, mdL AM (X8_endRound_w0 (upd z_50 7 ((z_50 7) + 1)) z_51 wn9))), (AM 0, .inl (cY 0, 72, .inl tb)), (AM 2, .inl (cY 0, 22, .inl z_51)), (AM 3, .inl (cY 0, 22, .inl z_53)), (AM 4, .inl (cY 0, 110, .inl kp)), (AM 5, .inl (cY 0, 8414, .inl z_54)), (AM 6, .inl (cY 0, 2, .inl (X8_endRound_w6 z_51 wn9))), (AM 13, .inl (cY 0, 4, .inl rw)), (AM 14, .inl (cY 0, 4, .inl br))]) hP hD [0, 1, 2, 3, 4, 5, 6, 7, 8] [] rfl rfl (by decide) (by decide) hk1 hFc hB ht [0, 1, 2, 3, 4, 5, 6, 7, 8] rfl (by decide)
                      clear hB hk1 hFc hPc hDc hP hD hS hz1 hvm ht t
                      obtain ⟨hP1, hD1⟩ := hJ
                      generalize H1 = H at hP1 hS1 ⊢
                      have hP : va_P (dC, dI) vwCl [(m0, .inr (8, mdL AM (X8_endRound_w0 (upd z_50 7 ((z_50 7) + 1)) z_51 wn9))), (AM 0, .inl (cY 0, 72, .inl tb)), (AM 2, .inl (cY 0, 22, .inl z_51)), (AM 3, .inl (cY 0, 22, .inl z_53)), (AM 4, .inl (cY 0, 110, .inl kp)), (AM 5, .inl (cY 0, 8414, .inl z_54)), (AM 6, .inl (cY 0, 2, .inl (X8_endRound_w6 z_51 wn9))), (AM 13, .inl (cY 0, 4, .inl rw)), (AM 14, .inl (cY 0, 4, .inl br))] H := hP1
                      have hD : va_D A [(m0, .inr (8, mdL AM (X8_endRound_w0 (upd z_50 7 ((z_50 7) + 1)) z_51 wn9))), (AM 0, .inl (cY 0, 72, .inl tb)), (AM 2, .inl (cY 0, 22, .inl z_51)), (AM 3, .inl (cY 0, 22, .inl z_53)), (AM 4, .inl (cY 0, 110, .inl kp)), (AM 5, .inl (cY 0, 8414, .inl z_54)), (AM 6, .inl (cY 0, 2, .inl (X8_endRound_w6 z_51 wn9))), (AM 13, .inl (cY 0, 4, .inl rw)), (AM 14, .inl (cY 0, 4, .inl br))] := hD1
                      have hS := hS1
                      clear hP1 hD1 hS1
                      obtain ⟨z_73, ez_73⟩ : ∃ z, z = (X8_endRound_w0 (upd z_50 7 ((z_50 7) + 1)) z_51 wn9) := ⟨_, rfl⟩
                      rw [← ez_73] at hP hD
                      obtain ⟨z_74, ez_74⟩ : ∃ z, z = (X8_endRound_w6 z_51 wn9) := ⟨_, rfl⟩
                      rw [← ez_74] at hP hD
                      refine lv_iinc (v := ((nI j) + 1)) (lv' := [(4, .int ((nI j) + 1)), (0, .ref m0), (1, .int many), (2, .int one), (3, .int two)]) hx hb dX8_play_124 hl (k := 4) rfl (by first | rfl | decide) (by decide) rfl (fun ls hl => ?_)
                      refine lv_goto (tgt := 58) hx hb dX8_play_127 (by decide) ?_
                      have e_75 : (X8_play_L58_g9 tb g9 one sA9 two wn9) = z_73 := by rw [X8_play_L58_g9]; simp only [← ez_46, ← ez_50, ← ez_51, ← ez_53, ← ez_54, ← ez_73, ← ez_74, eq_false c_56, eq_false c_63, eq_true c_69, ↓reduceIte]
                      have e_76 : (X8_play_L58_wn9 tb g9 one sA9 two wn9) = z_74 := by rw [X8_play_L58_wn9]; simp only [← ez_46, ← ez_50, ← ez_51, ← ez_53, ← ez_54, ← ez_73, ← ez_74, eq_false c_56, eq_false c_63, eq_true c_69, ↓reduceIte]
                      have hP9 : va_P (dC, dI) vwCl [(m0, .inr (8, mdL AM (X8_play_L58_g9 tb g9 one sA9 two wn9))), (AM 0, .inl (cY 0, 72, .inl tb)), (AM 2, .inl (cY 0, 22, .inl z_51)), (AM 3, .inl (cY 0, 22, .inl z_53)), (AM 4, .inl (cY 0, 110, .inl kp)), (AM 5, .inl (cY 0, 8414, .inl z_54)), (AM 6, .inl (cY 0, 2, .inl (X8_play_L58_wn9 tb g9 one sA9 two wn9))), (AM 13, .inl (cY 0, 4, .inl rw)), (AM 14, .inl (cY 0, 4, .inl br))] H := by simp only [e_75, e_76]; exact hP
                      have hD9 : va_D A [(m0, .inr (8, mdL AM (X8_play_L58_g9 tb g9 one sA9 two wn9))), (AM 0, .inl (cY 0, 72, .inl tb)), (AM 2, .inl (cY 0, 22, .inl z_51)), (AM 3, .inl (cY 0, 22, .inl z_53)), (AM 4, .inl (cY 0, 110, .inl kp)), (AM 5, .inl (cY 0, 8414, .inl z_54)), (AM 6, .inl (cY 0, 2, .inl (X8_play_L58_wn9 tb g9 one sA9 two wn9))), (AM 13, .inl (cY 0, 4, .inl rw)), (AM 14, .inl (cY 0, 4, .inl br))] := by simp only [e_75, e_76]; exact hD
                      have hl9 : lv_has ls 5 [(0, .ref m0), (1, .int many), (2, .int one), (3, .int two), (4, .int (nI (j + 1)))] := by rw [show nI (j + 1) = nI j + 1 from nI_succ _]; (try simp only [e_75, e_76]); exact lv_sub hl [1, 2, 3, 4, 0] rfl
                      replace hk := hk ((X8_play_L58_g9 tb g9 one sA9 two wn9), z_51, z_53, z_54, (X8_play_L58_wn9 tb g9 one sA9 two wn9))
                      (try dsimp only at hk)
                      exact hk ⟨by rw [hi.1, show 60 - j = (60 - (j + 1)) + 1 by omega, X8_ply_run_s]; simp only [← ez_46, ← ez_50, ← ez_51, ← ez_53, ← ez_54, ← ez_73, ← ez_74, eq_false c_47, eq_false c_48, ↓reduceIte], hsz_51, (fun q => by rw [e_75] at q; exact absurd (by rw [ez_73]; exact er9) q)⟩ _ _ _ hP9 hD9 hS hl9
          · rintro ⟨g9, sA9, rd9, td9, wn9⟩ hi H locs ls hP hD hS hl
            (try dsimp only at hi)
            have hP : va_P (dC, dI) vwCl [(m0, .inr (8, mdL AM g9)), (AM 0, .inl (cY 0, 72, .inl tb)), (AM 2, .inl (cY 0, 22, .inl sA9)), (AM 3, .inl (cY 0, 22, .inl rd9)), (AM 4, .inl (cY 0, 110, .inl kp)), (AM 5, .inl (cY 0, 8414, .inl td9)), (AM 6, .inl (cY 0, 2, .inl wn9)), (AM 13, .inl (cY 0, 4, .inl rw)), (AM 14, .inl (cY 0, 4, .inl br))] H := hP
            have hD : va_D A [(m0, .inr (8, mdL AM g9)), (AM 0, .inl (cY 0, 72, .inl tb)), (AM 2, .inl (cY 0, 22, .inl sA9)), (AM 3, .inl (cY 0, 22, .inl rd9)), (AM 4, .inl (cY 0, 110, .inl kp)), (AM 5, .inl (cY 0, 8414, .inl td9)), (AM 6, .inl (cY 0, 2, .inl wn9)), (AM 13, .inl (cY 0, 4, .inl rw)), (AM 14, .inl (cY 0, 4, .inl br))] := hD
            have hl : lv_has ls 5 [(0, .ref m0), (1, .int many), (2, .int one), (3, .int two), (4, .int 60)] := hl
            refine lv_iload hx hb dX8_play_58 (lv_at hl 4 rfl) ?_
            refine lv_iload_n hx hb dX8_play_60 rfl (lv_at hl 1 rfl) ?_
            refine lv_icmp_ge (tgt := 130) hx hb dX8_play_61 (by decide) (fun c_77 => ?_) (fun c_77 => ?_)
            rotate_left
            · exact absurd (Int32.not_lt.mp (in_hi c_3)) c_77
            have hr9 : X8_ply_run tb one two many 60 0 ((upd g 12 0), z_46, rd, td, wn) = (g9, sA9, rd9, td9, wn9) := hi.1
            have q58_0 : g9 = (X8_ply_run tb one two many 60 0 ((upd g 12 0), z_46, rd, td, wn)).1 := congrArg (fun z => z.1) hr9.symm
            have q58_1 : sA9 = (X8_ply_run tb one two many 60 0 ((upd g 12 0), z_46, rd, td, wn)).2.1 := congrArg (fun z => z.2.1) hr9.symm
            have q58_2 : rd9 = (X8_ply_run tb one two many 60 0 ((upd g 12 0), z_46, rd, td, wn)).2.2.1 := congrArg (fun z => z.2.2.1) hr9.symm
            have q58_3 : td9 = (X8_ply_run tb one two many 60 0 ((upd g 12 0), z_46, rd, td, wn)).2.2.2.1 := congrArg (fun z => z.2.2.2.1) hr9.symm
            have q58_4 : wn9 = (X8_ply_run tb one two many 60 0 ((upd g 12 0), z_46, rd, td, wn)).2.2.2.2 := congrArg (fun z => z.2.2.2.2) hr9.symm
            refine lv_aload_n hx hb dX8_play_130 rfl (lv_at hl 0 rfl) ?_
            refine va_get (D := (dC, dI)) (ci := 8) (v := .int (g9 7)) (C := RX8) (T := TX8) (N := 17) hx hb hts inw_X8_play_X8 hown hK hP 0 rfl rfl 7 (by decide) (hts (.fieldLink RX8 28 "DuelFramesModel" "frames" "I") (List.mem_of_getElem? (i := 2) rfl)) (fun _ h9 => h9) rfl dX8_play_131 ?_
            have eo_78 : (X8_play_r g tb sA rd td wn many one two) = (g9 7) := by rw [X8_play_r]; simp only [← ez_46, ← q58_0, ← q58_1, ← q58_2, ← q58_3, ← q58_4, eq_false c_3, eq_false c_16, eq_false c_29, eq_false c_30, ↓reduceIte]
            have eo_79 : (X8_play_w0 g tb sA rd td wn many one two) = g9 := by rw [X8_play_w0]; simp only [← ez_46, ← q58_0, ← q58_1, ← q58_2, ← q58_3, ← q58_4, eq_false c_3, eq_false c_16, eq_false c_29, eq_false c_30, ↓reduceIte]
            have eo_80 : (X8_play_w2 g tb sA rd td wn many one two) = sA9 := by rw [X8_play_w2]; simp only [← ez_46, ← q58_0, ← q58_1, ← q58_2, ← q58_3, ← q58_4, eq_false c_3, eq_false c_16, eq_false c_29, eq_false c_30, ↓reduceIte]
            have eo_81 : (X8_play_w3 g tb sA rd td wn many one two) = rd9 := by rw [X8_play_w3]; simp only [← ez_46, ← q58_0, ← q58_1, ← q58_2, ← q58_3, ← q58_4, eq_false c_3, eq_false c_16, eq_false c_29, eq_false c_30, ↓reduceIte]
            have eo_82 : (X8_play_w5 g tb sA rd td wn many one two) = td9 := by rw [X8_play_w5]; simp only [← ez_46, ← q58_0, ← q58_1, ← q58_2, ← q58_3, ← q58_4, eq_false c_3, eq_false c_16, eq_false c_29, eq_false c_30, ↓reduceIte]
            have eo_83 : (X8_play_w6 g tb sA rd td wn many one two) = wn9 := by rw [X8_play_w6]; simp only [← ez_46, ← q58_0, ← q58_1, ← q58_2, ← q58_3, ← q58_4, eq_false c_3, eq_false c_16, eq_false c_29, eq_false c_30, ↓reduceIte]
            have hP9 : va_P (dC, dI) vwCl [(m0, .inr (8, mdL AM (X8_play_w0 g tb sA rd td wn many one two))), (AM 0, .inl (cY 0, 72, .inl tb)), (AM 2, .inl (cY 0, 22, .inl (X8_play_w2 g tb sA rd td wn many one two))), (AM 3, .inl (cY 0, 22, .inl (X8_play_w3 g tb sA rd td wn many one two))), (AM 4, .inl (cY 0, 110, .inl kp)), (AM 5, .inl (cY 0, 8414, .inl (X8_play_w5 g tb sA rd td wn many one two))), (AM 6, .inl (cY 0, 2, .inl (X8_play_w6 g tb sA rd td wn many one two))), (AM 13, .inl (cY 0, 4, .inl rw)), (AM 14, .inl (cY 0, 4, .inl br))] H := by simp only [eo_79, eo_80, eo_81, eo_82, eo_83]; exact hP
            have hD9 : va_D A [(m0, .inr (8, mdL AM (X8_play_w0 g tb sA rd td wn many one two))), (AM 0, .inl (cY 0, 72, .inl tb)), (AM 2, .inl (cY 0, 22, .inl (X8_play_w2 g tb sA rd td wn many one two))), (AM 3, .inl (cY 0, 22, .inl (X8_play_w3 g tb sA rd td wn many one two))), (AM 4, .inl (cY 0, 110, .inl kp)), (AM 5, .inl (cY 0, 8414, .inl (X8_play_w5 g tb sA rd td wn many one two))), (AM 6, .inl (cY 0, 2, .inl (X8_play_w6 g tb sA rd td wn many one two))), (AM 13, .inl (cY 0, 4, .inl rw)), (AM 14, .inl (cY 0, 4, .inl br))] := by simp only [eo_79, eo_80, eo_81, eo_82, eo_83]; exact hD
            exact W.iret (v := (g9 7)) hx hb hr (fun t ht hW => ⟨⟨_, (), rfl, eo_78.symm, wPost_of hP9 hD9 ht⟩, hS.F ht⟩) hS.2.2 dX8_play_134
      · refine lv_iconst (v := 1) hx hb dX8_play_27 (by decide) ?_
        refine lv_goto (tgt := 43) hx hb dX8_play_28 (by decide) ?_
        have hPc := hP.sub (ws' := [(m0, .inr (8, mdL AM g)), (AM 0, .inl (cY 0, 72, .inl tb)), (AM 2, .inl (cY 0, 22, .inl sA)), (AM 3, .inl (cY 0, 22, .inl rd)), (AM 4, .inl (cY 0, 110, .inl kp)), (AM 5, .inl (cY 0, 8414, .inl td)), (AM 6, .inl (cY 0, 2, .inl wn)), (AM 13, .inl (cY 0, 4, .inl rw)), (AM 14, .inl (cY 0, 4, .inl br))]) [0, 1, 2, 3, 4, 5, 6, 7, 8] rfl
        have hDc := hD.sub (ws' := [(m0, .inr (8, mdL AM g)), (AM 0, .inl (cY 0, 72, .inl tb)), (AM 2, .inl (cY 0, 22, .inl sA)), (AM 3, .inl (cY 0, 22, .inl rd)), (AM 4, .inl (cY 0, 110, .inl kp)), (AM 5, .inl (cY 0, 8414, .inl td)), (AM 6, .inl (cY 0, 2, .inl wn)), (AM 13, .inl (cY 0, 4, .inl rw)), (AM 14, .inl (cY 0, 4, .inl br))]) [0, 1, 2, 3, 4, 5, 6, 7, 8] (by decide) rfl
        have hFc := va_free (wc := [(m0, .inr (8, mdL AM g)), (AM 0, .inl (cY 0, 72, .inl tb)), (AM 2, .inl (cY 0, 22, .inl sA)), (AM 3, .inl (cY 0, 22, .inl rd)), (AM 4, .inl (cY 0, 110, .inl kp)), (AM 5, .inl (cY 0, 8414, .inl td)), (AM 6, .inl (cY 0, 2, .inl wn)), (AM 13, .inl (cY 0, 4, .inl rw)), (AM 14, .inl (cY 0, 4, .inl br))]) hD hS hA [0, 1, 2, 3, 4, 5, 6, 7, 8] rfl
        refine va_calli (va_runV (As := [.int 1]) (rest := []) ⟨hx, hb, hml, hown, hts⟩ (c_X8_isFine l dC dI cY m0 AM g tb sA rd kp td wn rw br 1 s.heap.size) (cwV 1 hts gX8_play_X8_isFine rfl rfl rfl (by decide +kernel) ⟨Nat.le_of_ble_eq_true rfl, Nat.le_of_ble_eq_true rfl⟩) ⟨blindW, va_recv hK hPc (ci := 8) (q0 := 0) rfl rfl, fun U hU hW => ⟨rfl, wPre_of hPc hK hN hDc U hU hW⟩⟩ rfl rfl hl.1 rfl (lv_room (Nat.le_of_ble_eq_true rfl)) dX8_play_43 ⟨Nat.zero_le _, Nat.zero_le _⟩) hS (fun q _ h => hFc q h) hFc (fun r_78 u t H1 locs ht hvm hw hB hz1 hk1 hS1 => ?_)
        obtain ⟨hw, hb_79⟩ := hw
        subst hw
        refine lv_topi (fun x_80 ex_80 => ?_)
        obtain rfl : x_80 = 0 := ex_80.trans (by decide)
        have hJ := wJoin (wr := []) (w1 := [(m0, .inr (8, mdL AM (upd g 12 1))), (AM 0, .inl (cY 0, 72, .inl tb)), (AM 2, .inl (cY 0, 22, .inl sA)), (AM 3, .inl (cY 0, 22, .inl rd)), (AM 4, .inl (cY 0, 110, .inl kp)), (AM 5, .inl (cY 0, 8414, .inl td)), (AM 6, .inl (cY 0, 2, .inl wn)), (AM 13, .inl (cY 0, 4, .inl rw)), (AM 14, .inl (cY 0, 4, .inl br))]) (wn := [(m0, .inr (8, mdL AM (upd g 12 1))), (AM 0, .inl (cY 0, 72, .inl tb)), (AM 2, .inl (cY 0, 22, .inl sA)), (AM 3, .inl (cY 0, 22, .inl rd)), (AM 4, .inl (cY 0, 110, .inl kp)), (AM 5, .inl (cY 0, 8414, .inl td)), (AM 6, .inl (cY 0, 2, .inl wn)), (AM 13, .inl (cY 0, 4, .inl rw)), (AM 14, .inl (cY 0, 4, .inl br))]) hP hD [0, 1, 2, 3, 4, 5, 6, 7, 8] [] rfl rfl (by decide) (by decide) hk1 hFc hB ht [0, 1, 2, 3, 4, 5, 6, 7, 8] rfl (by decide)
        clear hB hk1 hFc hPc hDc hP hD hS hz1 hvm ht t
        obtain ⟨hP1, hD1⟩ := hJ
        generalize H1 = H at hP1 hS1 ⊢
        have hP : va_P (dC, dI) vwCl [(m0, .inr (8, mdL AM (upd g 12 1))), (AM 0, .inl (cY 0, 72, .inl tb)), (AM 2, .inl (cY 0, 22, .inl sA)), (AM 3, .inl (cY 0, 22, .inl rd)), (AM 4, .inl (cY 0, 110, .inl kp)), (AM 5, .inl (cY 0, 8414, .inl td)), (AM 6, .inl (cY 0, 2, .inl wn)), (AM 13, .inl (cY 0, 4, .inl rw)), (AM 14, .inl (cY 0, 4, .inl br))] H := hP1
        have hD : va_D A [(m0, .inr (8, mdL AM (upd g 12 1))), (AM 0, .inl (cY 0, 72, .inl tb)), (AM 2, .inl (cY 0, 22, .inl sA)), (AM 3, .inl (cY 0, 22, .inl rd)), (AM 4, .inl (cY 0, 110, .inl kp)), (AM 5, .inl (cY 0, 8414, .inl td)), (AM 6, .inl (cY 0, 2, .inl wn)), (AM 13, .inl (cY 0, 4, .inl rw)), (AM 14, .inl (cY 0, 4, .inl br))] := hD1
        have hS := hS1
        clear hP1 hD1 hS1
        refine lv_if_ne (tgt := 51) hx hb dX8_play_46 (by decide) (fun c_81 => ?_) (fun c_81 => ?_)
        · exact absurd (by decide) c_81
        refine lv_iconst (v := 0) hx hb dX8_play_49 (by decide) ?_
        have eo_82 : (X8_play_r g tb sA rd td wn many one two) = 0 := by rw [X8_play_r]; simp only [eq_false c_3, eq_false c_16, eq_true c_29, ↓reduceIte]
        have eo_83 : (X8_play_w0 g tb sA rd td wn many one two) = (upd g 12 1) := by rw [X8_play_w0]; simp only [eq_false c_3, eq_false c_16, eq_true c_29, ↓reduceIte]
        have eo_84 : (X8_play_w2 g tb sA rd td wn many one two) = sA := by rw [X8_play_w2]; simp only [eq_false c_3, eq_false c_16, eq_true c_29, ↓reduceIte]
        have eo_85 : (X8_play_w3 g tb sA rd td wn many one two) = rd := by rw [X8_play_w3]; simp only [eq_false c_3, eq_false c_16, eq_true c_29, ↓reduceIte]
        have eo_86 : (X8_play_w5 g tb sA rd td wn many one two) = td := by rw [X8_play_w5]; simp only [eq_false c_3, eq_false c_16, eq_true c_29, ↓reduceIte]
        have eo_87 : (X8_play_w6 g tb sA rd td wn many one two) = wn := by rw [X8_play_w6]; simp only [eq_false c_3, eq_false c_16, eq_true c_29, ↓reduceIte]
        have hP9 : va_P (dC, dI) vwCl [(m0, .inr (8, mdL AM (X8_play_w0 g tb sA rd td wn many one two))), (AM 0, .inl (cY 0, 72, .inl tb)), (AM 2, .inl (cY 0, 22, .inl (X8_play_w2 g tb sA rd td wn many one two))), (AM 3, .inl (cY 0, 22, .inl (X8_play_w3 g tb sA rd td wn many one two))), (AM 4, .inl (cY 0, 110, .inl kp)), (AM 5, .inl (cY 0, 8414, .inl (X8_play_w5 g tb sA rd td wn many one two))), (AM 6, .inl (cY 0, 2, .inl (X8_play_w6 g tb sA rd td wn many one two))), (AM 13, .inl (cY 0, 4, .inl rw)), (AM 14, .inl (cY 0, 4, .inl br))] H := by simp only [eo_83, eo_84, eo_85, eo_86, eo_87]; exact hP
        have hD9 : va_D A [(m0, .inr (8, mdL AM (X8_play_w0 g tb sA rd td wn many one two))), (AM 0, .inl (cY 0, 72, .inl tb)), (AM 2, .inl (cY 0, 22, .inl (X8_play_w2 g tb sA rd td wn many one two))), (AM 3, .inl (cY 0, 22, .inl (X8_play_w3 g tb sA rd td wn many one two))), (AM 4, .inl (cY 0, 110, .inl kp)), (AM 5, .inl (cY 0, 8414, .inl (X8_play_w5 g tb sA rd td wn many one two))), (AM 6, .inl (cY 0, 2, .inl (X8_play_w6 g tb sA rd td wn many one two))), (AM 13, .inl (cY 0, 4, .inl rw)), (AM 14, .inl (cY 0, 4, .inl br))] := by simp only [eo_83, eo_84, eo_85, eo_86, eo_87]; exact hD
        exact W.iret (v := 0) hx hb hr (fun t ht hW => ⟨⟨_, (), rfl, eo_82.symm, wPost_of hP9 hD9 ht⟩, hS.F ht⟩) hS.2.2 dX8_play_50
def X8_move_j69 (p0 : Int32) (p1 : Int32) (p2 : Int32) (p3 : Int32) (p4 : Int32) (p5 : Int32) : Int32 := (if (X8_in_r 30 1 p0) = 0 then 0 else (if (X8_in_r 10 1 p1) = 0 then 0 else (if (X8_in_r 40 1 p2) = 0 then 0 else (if (X8_in_r 150 1 p3) = 0 then 0 else (if (X8_in_r 3 0 p4) = 0 then 0 else (if (X8_in_r 200 1 p5) = 0 then 0 else 1))))))
theorem inw_X8_move_X8 : ∀ w ∈ u_ws RX8 TX8 17, w ∈ wsX8_move := fun _ h => List.mem_cons_of_mem _ (List.mem_append_right _ h)
def X8_move_r (g : Nat → Int32) (p0 : Int32) (p1 : Int32) (p2 : Int32) (p3 : Int32) (p4 : Int32) (p5 : Int32) : Int32 := (if (X8_move_j69 p0 p1 p2 p3 p4 p5) = 0 then 0 else (if (g 1) = 6 then 0 else (if (g 9) = 0 then (((g 1) + 1) - 1) else 0)))
def X8_move_w0 (g : Nat → Int32) (p0 : Int32) (p1 : Int32) (p2 : Int32) (p3 : Int32) (p4 : Int32) (p5 : Int32) : Nat → Int32 := (if (X8_move_j69 p0 p1 p2 p3 p4 p5) = 0 then (upd g 12 1) else (if (g 1) = 6 then (upd g 12 2) else (if (g 9) = 0 then (upd (upd g 12 0) 1 ((g 1) + 1)) else (upd g 12 2))))
def X8_move_w1 (g : Nat → Int32) (tb : Nat → Int32) (p0 : Int32) (p1 : Int32) (p2 : Int32) (p3 : Int32) (p4 : Int32) (p5 : Int32) : Nat → Int32 := (if (X8_move_j69 p0 p1 p2 p3 p4 p5) = 0 then tb else (if (g 1) = 6 then tb else (if (g 9) = 0 then (upd (upd (upd (upd (upd (upd (upd (upd (upd (upd (upd (upd tb (12 * (g 1)).toNatClampNeg p0) ((12 * (g 1)) + 1).toNatClampNeg p1) ((12 * (g 1)) + 2).toNatClampNeg p2) ((12 * (g 1)) + 3).toNatClampNeg p3) ((12 * (g 1)) + 4).toNatClampNeg p4) ((12 * (g 1)) + 5).toNatClampNeg p5) ((12 * (g 1)) + 6).toNatClampNeg 20) ((12 * (g 1)) + 7).toNatClampNeg 12) ((12 * (g 1)) + 8).toNatClampNeg 10) ((12 * (g 1)) + 9).toNatClampNeg 0) ((12 * (g 1)) + 10).toNatClampNeg 5) ((12 * (g 1)) + 11).toNatClampNeg 0) else tb)))
set_option maxHeartbeats 4000000 in
set_option maxRecDepth 100000 in
theorem c_X8_move (l : Launch) (dC : Nat → ClassId) (dI : Nat → Nat → Nat) (cY : Nat → ClassId) (m0 : Nat) (AM : Nat → Nat) (g : Nat → Int32) (tb : Nat → Int32) (sA : Nat → Int32) (rd : Nat → Int32) (kp : Nat → Int32) (td : Nat → Int32) (wn : Nat → Int32) (rw : Nat → Int32) (br : Nat → Int32) (p0 : Int32) (p1 : Int32) (p2 : Int32) (p3 : Int32) (p4 : Int32) (p5 : Int32) (hmv : vp_in (g 1) 7) (sz : Nat) : Met l yX8_move wsX8_move ({ frames := 1, cells := 0, slots := 0, locals := 22 } : Room) (va_Pc [.ref m0, .int p0, .int p1, .int p2, .int p3, .int p4, .int p5] (wPre (dC, dI) (tyL cY) [(m0, .inr (8, mdL AM g)), (AM 0, .inl (cY 0, 72, .inl tb)), (AM 2, .inl (cY 0, 22, .inl sA)), (AM 3, .inl (cY 0, 22, .inl rd)), (AM 4, .inl (cY 0, 110, .inl kp)), (AM 5, .inl (cY 0, 8414, .inl td)), (AM 6, .inl (cY 0, 2, .inl wn)), (AM 13, .inl (cY 0, 4, .inl rw)), (AM 14, .inl (cY 0, 4, .inl br))] sz)) (va_Qi (fun (r : Int32) (_ : Unit) => r = (X8_move_r g p0 p1 p2 p3 p4 p5)) (wPost (dC, dI) [(m0, .inr (8, mdL AM (X8_move_w0 g p0 p1 p2 p3 p4 p5))), (AM 0, .inl (cY 0, 72, .inl (X8_move_w1 g tb p0 p1 p2 p3 p4 p5))), (AM 2, .inl (cY 0, 22, .inl sA)), (AM 3, .inl (cY 0, 22, .inl rd)), (AM 4, .inl (cY 0, 110, .inl kp)), (AM 5, .inl (cY 0, 8414, .inl td)), (AM 6, .inl (cY 0, 2, .inl wn)), (AM 13, .inl (cY 0, 4, .inl rw)), (AM 14, .inl (cY 0, 4, .inl br))] (va_A [(m0, .inr (8, mdL AM g)), (AM 0, .inl (cY 0, 72, .inl tb)), (AM 2, .inl (cY 0, 22, .inl sA)), (AM 3, .inl (cY 0, 22, .inl rd)), (AM 4, .inl (cY 0, 110, .inl kp)), (AM 5, .inl (cY 0, 8414, .inl td)), (AM 6, .inl (cY 0, 2, .inl wn)), (AM 13, .inl (cY 0, 4, .inl rw)), (AM 14, .inl (cY 0, 4, .inl br))] sz)) (va_A [(m0, .inr (8, mdL AM g)), (AM 0, .inl (cY 0, 72, .inl tb)), (AM 2, .inl (cY 0, 22, .inl sA)), (AM 3, .inl (cY 0, 22, .inl rd)), (AM 4, .inl (cY 0, 110, .inl kp)), (AM 5, .inl (cY 0, 8414, .inl td)), (AM 6, .inl (cY 0, 2, .inl wn)), (AM 13, .inl (cY 0, 4, .inl rw)), (AM 14, .inl (cY 0, 4, .inl br))] sz)) 0 0 (va_A [(m0, .inr (8, mdL AM g)), (AM 0, .inl (cY 0, 72, .inl tb)), (AM 2, .inl (cY 0, 22, .inl sA)), (AM 3, .inl (cY 0, 22, .inl rd)), (AM 4, .inl (cY 0, 110, .inl kp)), (AM 5, .inl (cY 0, 8414, .inl td)), (AM 6, .inl (cY 0, 2, .inl wn)), (AM 13, .inl (cY 0, 4, .inl rw)), (AM 14, .inl (cY 0, 4, .inl br))] sz) := by
  refine Met.ofW (cc := cX8_move) (maxL := 9) (ret := (some .int)) (by decide) rfl ?_
  intro p e s m args below meth c s₁ B hml hv
  obtain ⟨rfl, hsz, hP, hK, hN, hD0⟩ := hv
  have hx := B.exec
  have hb := B.bytes
  have hr := B.returns
  have hts := atoms_spec (ws := wsX8_move) B.pre
  have hown : s.vm.findClass RX8 = some m.cls := findClass_of_methodNamed B.named
  have hlocks := B.notSynchronized
  subst hsz
  have hD := hD0.self (sz := s.heap.size)
  generalize hAe : va_A [(m0, .inr (8, mdL AM g)), (AM 0, .inl (cY 0, 72, .inl tb)), (AM 2, .inl (cY 0, 22, .inl sA)), (AM 3, .inl (cY 0, 22, .inl rd)), (AM 4, .inl (cY 0, 110, .inl kp)), (AM 5, .inl (cY 0, 8414, .inl td)), (AM 6, .inl (cY 0, 2, .inl wn)), (AM 13, .inl (cY 0, 4, .inl rw)), (AM 14, .inl (cY 0, 4, .inl br))] s.heap.size = A at hD ⊢
  have hA : ∀ q : Nat, s.heap.size ≤ q → A q := fun q h => by rw [← hAe]; exact Or.inr h
  have hS : va_S A s.heap s.heap [] := va_S.rf
  have hP : va_P (dC, dI) vwCl [(m0, .inr (8, mdL AM g)), (AM 0, .inl (cY 0, 72, .inl tb)), (AM 2, .inl (cY 0, 22, .inl sA)), (AM 3, .inl (cY 0, 22, .inl rd)), (AM 4, .inl (cY 0, 110, .inl kp)), (AM 5, .inl (cY 0, 8414, .inl td)), (AM 6, .inl (cY 0, 2, .inl wn)), (AM 13, .inl (cY 0, 4, .inl rw)), (AM 14, .inl (cY 0, 4, .inl br))] s.heap := hP
  have hl := lv_entry ([.ref m0, .int p0, .int p1, .int p2, .int p3, .int p4, .int p5]) (n := 9) (Nat.le_of_ble_eq_true rfl)
  rw [lg_entry_eq]
  generalize (lg_sl ([.ref m0, .int p0, .int p1, .int p2, .int p3, .int p4, .int p5]) ++ List.replicate (9 - (lg_sl ([.ref m0, .int p0, .int p1, .int p2, .int p3, .int p4, .int p5])).length) Slot.unset).toArray = ls at hl ⊢
  have hl : lv_has ls 9 [(0, .ref m0), (1, .int p0), (2, .int p1), (3, .int p2), (4, .int p3), (5, .int p4), (6, .int p5)] := hl
  refine lv_iload_n hx hb dX8_move_0 rfl (lv_at hl 1 rfl) ?_
  refine lv_iconst (v := 1) hx hb dX8_move_1 (by decide) ?_
  refine lv_bipush (v := 30) hx hb dX8_move_2 (by decide) ?_
  have hPc := hP.sub (ws' := []) [] rfl
  refine vp_callSi (W.runS (As := [.int p0, .int 1, .int 30]) (rest := []) ⟨hx, hb, hml, hown, hts⟩ (c_X8_in l dC dI cY p0 1 30) (va_cwS 3 hts gX8_move_X8_in rfl rfl rfl (by decide +kernel) ⟨Nat.le_of_ble_eq_true rfl, Nat.le_of_ble_eq_true rfl⟩) ⟨blindR, fun U hU hW => ⟨rfl, rPre_of hPc hK hN U hU hW⟩⟩ rfl rfl hl.1 rfl (lv_room (Nat.le_of_ble_eq_true rfl)) dX8_move_4 ⟨Nat.zero_le _, Nat.zero_le _⟩) (fun r_1 hw => ?_)
  obtain ⟨hw, hb_2⟩ := hw
  subst hw
  refine jnW (D := (dC, dI)) (ws := [(m0, .inr (8, mdL AM g)), (AM 0, .inl (cY 0, 72, .inl tb)), (AM 2, .inl (cY 0, 22, .inl sA)), (AM 3, .inl (cY 0, 22, .inl rd)), (AM 4, .inl (cY 0, 110, .inl kp)), (AM 5, .inl (cY 0, 8414, .inl td)), (AM 6, .inl (cY 0, 2, .inl wn)), (AM 13, .inl (cY 0, 4, .inl rw)), (AM 14, .inl (cY 0, 4, .inl br))]) (lv := [(0, .ref m0), (1, .int p0), (2, .int p1), (3, .int p2), (4, .int p3), (5, .int p4), (6, .int p5)]) (st := [.int (X8_move_j69 p0 p1 p2 p3 p4 p5)]) (J := 69) (n := 9) (A := A) (H0 := s.heap) ?_ ?_
  · intro H locs ls hP hD hS hl
    refine lv_istore (lv' := [(7, .int (X8_move_j69 p0 p1 p2 p3 p4 p5)), (0, .ref m0), (1, .int p0), (2, .int p1), (3, .int p2), (4, .int p3), (5, .int p4), (6, .int p5)]) hx hb dX8_move_69 hl (by decide) rfl (fun ls hl => ?_)
    refine lv_aload_n hx hb dX8_move_71 rfl (lv_at hl 1 rfl) ?_
    refine lv_iload hx hb dX8_move_72 (lv_at hl 0 rfl) ?_
    refine lv_if_ne (tgt := 81) hx hb dX8_move_74 (by decide) (fun c_5 => ?_) (fun c_5 => ?_)
    · refine lv_aload_n hx hb dX8_move_81 rfl (lv_at hl 1 rfl) ?_
      refine va_get (D := (dC, dI)) (ci := 8) (v := .int (g 1)) (C := RX8) (T := TX8) (N := 17) hx hb hts inw_X8_move_X8 hown hK hP 0 rfl rfl 1 (by decide) (hts (.fieldLink RX8 44 "DuelFramesModel" "moves" "I") (List.mem_of_getElem? (i := 1) rfl)) (fun _ h9 => h9) rfl dX8_move_82 ?_
      refine lv_bipush (v := 6) hx hb dX8_move_85 (by decide) ?_
      refine lv_icmp_eq (tgt := 97) hx hb dX8_move_87 (by decide) (fun c_6 => ?_) (fun c_6 => ?_)
      · refine lv_iconst (v := 2) hx hb dX8_move_97 (by decide) ?_
        refine lv_goto (tgt := 102) hx hb dX8_move_98 (by decide) ?_
        have hPc := hP.sub (ws' := [(m0, .inr (8, mdL AM g)), (AM 0, .inl (cY 0, 72, .inl tb)), (AM 2, .inl (cY 0, 22, .inl sA)), (AM 3, .inl (cY 0, 22, .inl rd)), (AM 4, .inl (cY 0, 110, .inl kp)), (AM 5, .inl (cY 0, 8414, .inl td)), (AM 6, .inl (cY 0, 2, .inl wn)), (AM 13, .inl (cY 0, 4, .inl rw)), (AM 14, .inl (cY 0, 4, .inl br))]) [0, 1, 2, 3, 4, 5, 6, 7, 8] rfl
        have hDc := hD.sub (ws' := [(m0, .inr (8, mdL AM g)), (AM 0, .inl (cY 0, 72, .inl tb)), (AM 2, .inl (cY 0, 22, .inl sA)), (AM 3, .inl (cY 0, 22, .inl rd)), (AM 4, .inl (cY 0, 110, .inl kp)), (AM 5, .inl (cY 0, 8414, .inl td)), (AM 6, .inl (cY 0, 2, .inl wn)), (AM 13, .inl (cY 0, 4, .inl rw)), (AM 14, .inl (cY 0, 4, .inl br))]) [0, 1, 2, 3, 4, 5, 6, 7, 8] (by decide) rfl
        have hFc := va_free (wc := [(m0, .inr (8, mdL AM g)), (AM 0, .inl (cY 0, 72, .inl tb)), (AM 2, .inl (cY 0, 22, .inl sA)), (AM 3, .inl (cY 0, 22, .inl rd)), (AM 4, .inl (cY 0, 110, .inl kp)), (AM 5, .inl (cY 0, 8414, .inl td)), (AM 6, .inl (cY 0, 2, .inl wn)), (AM 13, .inl (cY 0, 4, .inl rw)), (AM 14, .inl (cY 0, 4, .inl br))]) hD hS hA [0, 1, 2, 3, 4, 5, 6, 7, 8] rfl
        refine va_calli (va_runV (As := [.int 2]) (rest := []) ⟨hx, hb, hml, hown, hts⟩ (c_X8_isFine l dC dI cY m0 AM g tb sA rd kp td wn rw br 2 H.size) (cwV 1 hts gX8_move_X8_isFine rfl rfl rfl (by decide +kernel) ⟨Nat.le_of_ble_eq_true rfl, Nat.le_of_ble_eq_true rfl⟩) ⟨blindW, va_recv hK hPc (ci := 8) (q0 := 0) rfl rfl, fun U hU hW => ⟨rfl, wPre_of hPc hK hN hDc U hU hW⟩⟩ rfl rfl hl.1 rfl (lv_room (Nat.le_of_ble_eq_true rfl)) dX8_move_102 ⟨Nat.zero_le _, Nat.zero_le _⟩) hS (fun q _ h => hFc q h) hFc (fun r_7 u t H1 locs ht hvm hw hB hz1 hk1 hS1 => ?_)
        obtain ⟨hw, hb_8⟩ := hw
        subst hw
        refine lv_topi (fun x_9 ex_9 => ?_)
        obtain rfl : x_9 = 0 := ex_9.trans (by decide)
        have hJ := wJoin (wr := []) (w1 := [(m0, .inr (8, mdL AM (upd g 12 2))), (AM 0, .inl (cY 0, 72, .inl tb)), (AM 2, .inl (cY 0, 22, .inl sA)), (AM 3, .inl (cY 0, 22, .inl rd)), (AM 4, .inl (cY 0, 110, .inl kp)), (AM 5, .inl (cY 0, 8414, .inl td)), (AM 6, .inl (cY 0, 2, .inl wn)), (AM 13, .inl (cY 0, 4, .inl rw)), (AM 14, .inl (cY 0, 4, .inl br))]) (wn := [(m0, .inr (8, mdL AM (upd g 12 2))), (AM 0, .inl (cY 0, 72, .inl tb)), (AM 2, .inl (cY 0, 22, .inl sA)), (AM 3, .inl (cY 0, 22, .inl rd)), (AM 4, .inl (cY 0, 110, .inl kp)), (AM 5, .inl (cY 0, 8414, .inl td)), (AM 6, .inl (cY 0, 2, .inl wn)), (AM 13, .inl (cY 0, 4, .inl rw)), (AM 14, .inl (cY 0, 4, .inl br))]) hP hD [0, 1, 2, 3, 4, 5, 6, 7, 8] [] rfl rfl (by decide) (by decide) hk1 hFc hB ht [0, 1, 2, 3, 4, 5, 6, 7, 8] rfl (by decide)
        clear hB hk1 hFc hPc hDc hP hD hS hz1 hvm ht t
        obtain ⟨hP1, hD1⟩ := hJ
        generalize H1 = H at hP1 hS1 ⊢
        have hP : va_P (dC, dI) vwCl [(m0, .inr (8, mdL AM (upd g 12 2))), (AM 0, .inl (cY 0, 72, .inl tb)), (AM 2, .inl (cY 0, 22, .inl sA)), (AM 3, .inl (cY 0, 22, .inl rd)), (AM 4, .inl (cY 0, 110, .inl kp)), (AM 5, .inl (cY 0, 8414, .inl td)), (AM 6, .inl (cY 0, 2, .inl wn)), (AM 13, .inl (cY 0, 4, .inl rw)), (AM 14, .inl (cY 0, 4, .inl br))] H := hP1
        have hD : va_D A [(m0, .inr (8, mdL AM (upd g 12 2))), (AM 0, .inl (cY 0, 72, .inl tb)), (AM 2, .inl (cY 0, 22, .inl sA)), (AM 3, .inl (cY 0, 22, .inl rd)), (AM 4, .inl (cY 0, 110, .inl kp)), (AM 5, .inl (cY 0, 8414, .inl td)), (AM 6, .inl (cY 0, 2, .inl wn)), (AM 13, .inl (cY 0, 4, .inl rw)), (AM 14, .inl (cY 0, 4, .inl br))] := hD1
        have hS := hS1
        clear hP1 hD1 hS1
        refine lv_if_ne (tgt := 110) hx hb dX8_move_105 (by decide) (fun c_10 => ?_) (fun c_10 => ?_)
        · exact absurd (by decide) c_10
        refine lv_iconst (v := 0) hx hb dX8_move_108 (by decide) ?_
        have eo_11 : (X8_move_r g p0 p1 p2 p3 p4 p5) = 0 := by rw [X8_move_r]; simp only [eq_false c_5, eq_true c_6, ↓reduceIte]
        have eo_12 : (X8_move_w0 g p0 p1 p2 p3 p4 p5) = (upd g 12 2) := by rw [X8_move_w0]; simp only [eq_false c_5, eq_true c_6, ↓reduceIte]
        have eo_13 : (X8_move_w1 g tb p0 p1 p2 p3 p4 p5) = tb := by rw [X8_move_w1]; simp only [eq_false c_5, eq_true c_6, ↓reduceIte]
        have hP9 : va_P (dC, dI) vwCl [(m0, .inr (8, mdL AM (X8_move_w0 g p0 p1 p2 p3 p4 p5))), (AM 0, .inl (cY 0, 72, .inl (X8_move_w1 g tb p0 p1 p2 p3 p4 p5))), (AM 2, .inl (cY 0, 22, .inl sA)), (AM 3, .inl (cY 0, 22, .inl rd)), (AM 4, .inl (cY 0, 110, .inl kp)), (AM 5, .inl (cY 0, 8414, .inl td)), (AM 6, .inl (cY 0, 2, .inl wn)), (AM 13, .inl (cY 0, 4, .inl rw)), (AM 14, .inl (cY 0, 4, .inl br))] H := by simp only [eo_12, eo_13]; exact hP
        have hD9 : va_D A [(m0, .inr (8, mdL AM (X8_move_w0 g p0 p1 p2 p3 p4 p5))), (AM 0, .inl (cY 0, 72, .inl (X8_move_w1 g tb p0 p1 p2 p3 p4 p5))), (AM 2, .inl (cY 0, 22, .inl sA)), (AM 3, .inl (cY 0, 22, .inl rd)), (AM 4, .inl (cY 0, 110, .inl kp)), (AM 5, .inl (cY 0, 8414, .inl td)), (AM 6, .inl (cY 0, 2, .inl wn)), (AM 13, .inl (cY 0, 4, .inl rw)), (AM 14, .inl (cY 0, 4, .inl br))] := by simp only [eo_12, eo_13]; exact hD
        exact W.iret (v := 0) hx hb hr (fun t ht hW => ⟨⟨_, (), rfl, eo_11.symm, wPost_of hP9 hD9 ht⟩, hS.F ht⟩) hS.2.2 dX8_move_109
      · refine lv_aload_n hx hb dX8_move_90 rfl (lv_at hl 1 rfl) ?_
        refine va_get (D := (dC, dI)) (ci := 8) (v := .int (g 9)) (C := RX8) (T := TX8) (N := 17) hx hb hts inw_X8_move_X8 hown hK hP 0 rfl rfl 9 (by decide) (hts (.fieldLink RX8 51 "DuelFramesModel" "goesOn" "Z") (List.mem_of_getElem? (i := 2) rfl)) (fun _ h9 => h9) rfl dX8_move_91 ?_
        refine lv_if_eq (tgt := 101) hx hb dX8_move_94 (by decide) (fun c_14 => ?_) (fun c_14 => ?_)
        · refine lv_iconst (v := 0) hx hb dX8_move_101 (by decide) ?_
          have hPc := hP.sub (ws' := [(m0, .inr (8, mdL AM g)), (AM 0, .inl (cY 0, 72, .inl tb)), (AM 2, .inl (cY 0, 22, .inl sA)), (AM 3, .inl (cY 0, 22, .inl rd)), (AM 4, .inl (cY 0, 110, .inl kp)), (AM 5, .inl (cY 0, 8414, .inl td)), (AM 6, .inl (cY 0, 2, .inl wn)), (AM 13, .inl (cY 0, 4, .inl rw)), (AM 14, .inl (cY 0, 4, .inl br))]) [0, 1, 2, 3, 4, 5, 6, 7, 8] rfl
          have hDc := hD.sub (ws' := [(m0, .inr (8, mdL AM g)), (AM 0, .inl (cY 0, 72, .inl tb)), (AM 2, .inl (cY 0, 22, .inl sA)), (AM 3, .inl (cY 0, 22, .inl rd)), (AM 4, .inl (cY 0, 110, .inl kp)), (AM 5, .inl (cY 0, 8414, .inl td)), (AM 6, .inl (cY 0, 2, .inl wn)), (AM 13, .inl (cY 0, 4, .inl rw)), (AM 14, .inl (cY 0, 4, .inl br))]) [0, 1, 2, 3, 4, 5, 6, 7, 8] (by decide) rfl
          have hFc := va_free (wc := [(m0, .inr (8, mdL AM g)), (AM 0, .inl (cY 0, 72, .inl tb)), (AM 2, .inl (cY 0, 22, .inl sA)), (AM 3, .inl (cY 0, 22, .inl rd)), (AM 4, .inl (cY 0, 110, .inl kp)), (AM 5, .inl (cY 0, 8414, .inl td)), (AM 6, .inl (cY 0, 2, .inl wn)), (AM 13, .inl (cY 0, 4, .inl rw)), (AM 14, .inl (cY 0, 4, .inl br))]) hD hS hA [0, 1, 2, 3, 4, 5, 6, 7, 8] rfl
          refine va_calli (va_runV (As := [.int 0]) (rest := []) ⟨hx, hb, hml, hown, hts⟩ (c_X8_isFine l dC dI cY m0 AM g tb sA rd kp td wn rw br 0 H.size) (cwV 1 hts gX8_move_X8_isFine rfl rfl rfl (by decide +kernel) ⟨Nat.le_of_ble_eq_true rfl, Nat.le_of_ble_eq_true rfl⟩) ⟨blindW, va_recv hK hPc (ci := 8) (q0 := 0) rfl rfl, fun U hU hW => ⟨rfl, wPre_of hPc hK hN hDc U hU hW⟩⟩ rfl rfl hl.1 rfl (lv_room (Nat.le_of_ble_eq_true rfl)) dX8_move_102 ⟨Nat.zero_le _, Nat.zero_le _⟩) hS (fun q _ h => hFc q h) hFc (fun r_15 u t H1 locs ht hvm hw hB hz1 hk1 hS1 => ?_)
          obtain ⟨hw, hb_16⟩ := hw
          subst hw
          refine lv_topi (fun x_17 ex_17 => ?_)
          obtain rfl : x_17 = 1 := ex_17.trans (by decide)
          have hJ := wJoin (wr := []) (w1 := [(m0, .inr (8, mdL AM (upd g 12 0))), (AM 0, .inl (cY 0, 72, .inl tb)), (AM 2, .inl (cY 0, 22, .inl sA)), (AM 3, .inl (cY 0, 22, .inl rd)), (AM 4, .inl (cY 0, 110, .inl kp)), (AM 5, .inl (cY 0, 8414, .inl td)), (AM 6, .inl (cY 0, 2, .inl wn)), (AM 13, .inl (cY 0, 4, .inl rw)), (AM 14, .inl (cY 0, 4, .inl br))]) (wn := [(m0, .inr (8, mdL AM (upd g 12 0))), (AM 0, .inl (cY 0, 72, .inl tb)), (AM 2, .inl (cY 0, 22, .inl sA)), (AM 3, .inl (cY 0, 22, .inl rd)), (AM 4, .inl (cY 0, 110, .inl kp)), (AM 5, .inl (cY 0, 8414, .inl td)), (AM 6, .inl (cY 0, 2, .inl wn)), (AM 13, .inl (cY 0, 4, .inl rw)), (AM 14, .inl (cY 0, 4, .inl br))]) hP hD [0, 1, 2, 3, 4, 5, 6, 7, 8] [] rfl rfl (by decide) (by decide) hk1 hFc hB ht [0, 1, 2, 3, 4, 5, 6, 7, 8] rfl (by decide)
          clear hB hk1 hFc hPc hDc hP hD hS hz1 hvm ht t
          obtain ⟨hP1, hD1⟩ := hJ
          generalize H1 = H at hP1 hS1 ⊢
          have hP : va_P (dC, dI) vwCl [(m0, .inr (8, mdL AM (upd g 12 0))), (AM 0, .inl (cY 0, 72, .inl tb)), (AM 2, .inl (cY 0, 22, .inl sA)), (AM 3, .inl (cY 0, 22, .inl rd)), (AM 4, .inl (cY 0, 110, .inl kp)), (AM 5, .inl (cY 0, 8414, .inl td)), (AM 6, .inl (cY 0, 2, .inl wn)), (AM 13, .inl (cY 0, 4, .inl rw)), (AM 14, .inl (cY 0, 4, .inl br))] H := hP1
          have hD : va_D A [(m0, .inr (8, mdL AM (upd g 12 0))), (AM 0, .inl (cY 0, 72, .inl tb)), (AM 2, .inl (cY 0, 22, .inl sA)), (AM 3, .inl (cY 0, 22, .inl rd)), (AM 4, .inl (cY 0, 110, .inl kp)), (AM 5, .inl (cY 0, 8414, .inl td)), (AM 6, .inl (cY 0, 2, .inl wn)), (AM 13, .inl (cY 0, 4, .inl rw)), (AM 14, .inl (cY 0, 4, .inl br))] := hD1
          have hS := hS1
          clear hP1 hD1 hS1
          refine lv_if_ne (tgt := 110) hx hb dX8_move_105 (by decide) (fun c_18 => ?_) (fun c_18 => ?_)
          rotate_left
          · exact absurd c_18 (by decide)
          refine lv_bipush (v := 12) hx hb dX8_move_110 (by decide) ?_
          refine lv_aload_n hx hb dX8_move_112 rfl (lv_at hl 1 rfl) ?_
          refine va_get (D := (dC, dI)) (ci := 8) (v := .int (g 1)) (C := RX8) (T := TX8) (N := 17) hx hb hts inw_X8_move_X8 hown hK hP 0 rfl rfl 1 (by decide) (hts (.fieldLink RX8 44 "DuelFramesModel" "moves" "I") (List.mem_of_getElem? (i := 1) rfl)) (fun _ h9 => h9) rfl dX8_move_113 ?_
          refine lv_imul hx hb dX8_move_116 ?_
          refine lv_istore (lv' := [(8, .int (12 * (g 1))), (7, .int (X8_move_j69 p0 p1 p2 p3 p4 p5)), (0, .ref m0), (1, .int p0), (2, .int p1), (3, .int p2), (4, .int p3), (5, .int p4), (6, .int p5)]) hx hb dX8_move_117 hl (by decide) rfl (fun ls hl => ?_)
          refine lv_aload_n hx hb dX8_move_119 rfl (lv_at hl 2 rfl) ?_
          refine va_get (D := (dC, dI)) (ci := 8) (v := .ref (AM 0)) (C := RX8) (T := TX8) (N := 17) hx hb hts inw_X8_move_X8 hown hK hP 0 rfl rfl 0 (by decide) (hts (.fieldLink RX8 7 "DuelFramesModel" "table" "[I") (List.mem_of_getElem? (i := 3) rfl)) (fun _ h9 => h9) rfl dX8_move_120 ?_
          refine lv_iload hx hb dX8_move_123 (lv_at hl 0 rfl) ?_
          refine lv_iload_n hx hb dX8_move_125 rfl (lv_at hl 3 rfl) ?_
          refine va_iast hx hb hK hP hD hS 1 0 rfl rfl (tb_in0 (mv_ok hmv c_6)) dX8_move_126 (fun H locs hP1 hD1 hS1 => ?_)
          clear hP hD hS
          have hP : va_P (dC, dI) vwCl [(m0, .inr (8, mdL AM (upd g 12 0))), (AM 0, .inl (cY 0, 72, .inl (upd tb (12 * (g 1)).toNatClampNeg p0))), (AM 2, .inl (cY 0, 22, .inl sA)), (AM 3, .inl (cY 0, 22, .inl rd)), (AM 4, .inl (cY 0, 110, .inl kp)), (AM 5, .inl (cY 0, 8414, .inl td)), (AM 6, .inl (cY 0, 2, .inl wn)), (AM 13, .inl (cY 0, 4, .inl rw)), (AM 14, .inl (cY 0, 4, .inl br))] H := hP1
          have hD : va_D A [(m0, .inr (8, mdL AM (upd g 12 0))), (AM 0, .inl (cY 0, 72, .inl (upd tb (12 * (g 1)).toNatClampNeg p0))), (AM 2, .inl (cY 0, 22, .inl sA)), (AM 3, .inl (cY 0, 22, .inl rd)), (AM 4, .inl (cY 0, 110, .inl kp)), (AM 5, .inl (cY 0, 8414, .inl td)), (AM 6, .inl (cY 0, 2, .inl wn)), (AM 13, .inl (cY 0, 4, .inl rw)), (AM 14, .inl (cY 0, 4, .inl br))] := hD1
          have hS := hS1
          clear hP1 hD1 hS1
          refine lv_aload_n hx hb dX8_move_127 rfl (lv_at hl 2 rfl) ?_
          refine va_get (D := (dC, dI)) (ci := 8) (v := .ref (AM 0)) (C := RX8) (T := TX8) (N := 17) hx hb hts inw_X8_move_X8 hown hK hP 0 rfl rfl 0 (by decide) (hts (.fieldLink RX8 7 "DuelFramesModel" "table" "[I") (List.mem_of_getElem? (i := 3) rfl)) (fun _ h9 => h9) rfl dX8_move_128 ?_
          refine lv_iload hx hb dX8_move_131 (lv_at hl 0 rfl) ?_
          refine lv_iconst (v := 1) hx hb dX8_move_133 (by decide) ?_
          refine lv_iadd hx hb dX8_move_134 ?_
          refine lv_iload_n hx hb dX8_move_135 rfl (lv_at hl 4 rfl) ?_
          refine va_iast hx hb hK hP hD hS 1 0 rfl rfl (tb_in (mv_ok hmv c_6) (vin rfl)) dX8_move_136 (fun H locs hP1 hD1 hS1 => ?_)
          clear hP hD hS
          have hP : va_P (dC, dI) vwCl [(m0, .inr (8, mdL AM (upd g 12 0))), (AM 0, .inl (cY 0, 72, .inl (upd (upd tb (12 * (g 1)).toNatClampNeg p0) ((12 * (g 1)) + 1).toNatClampNeg p1))), (AM 2, .inl (cY 0, 22, .inl sA)), (AM 3, .inl (cY 0, 22, .inl rd)), (AM 4, .inl (cY 0, 110, .inl kp)), (AM 5, .inl (cY 0, 8414, .inl td)), (AM 6, .inl (cY 0, 2, .inl wn)), (AM 13, .inl (cY 0, 4, .inl rw)), (AM 14, .inl (cY 0, 4, .inl br))] H := hP1
          have hD : va_D A [(m0, .inr (8, mdL AM (upd g 12 0))), (AM 0, .inl (cY 0, 72, .inl (upd (upd tb (12 * (g 1)).toNatClampNeg p0) ((12 * (g 1)) + 1).toNatClampNeg p1))), (AM 2, .inl (cY 0, 22, .inl sA)), (AM 3, .inl (cY 0, 22, .inl rd)), (AM 4, .inl (cY 0, 110, .inl kp)), (AM 5, .inl (cY 0, 8414, .inl td)), (AM 6, .inl (cY 0, 2, .inl wn)), (AM 13, .inl (cY 0, 4, .inl rw)), (AM 14, .inl (cY 0, 4, .inl br))] := hD1
          have hS := hS1
          clear hP1 hD1 hS1
          refine lv_aload_n hx hb dX8_move_137 rfl (lv_at hl 2 rfl) ?_
          refine va_get (D := (dC, dI)) (ci := 8) (v := .ref (AM 0)) (C := RX8) (T := TX8) (N := 17) hx hb hts inw_X8_move_X8 hown hK hP 0 rfl rfl 0 (by decide) (hts (.fieldLink RX8 7 "DuelFramesModel" "table" "[I") (List.mem_of_getElem? (i := 3) rfl)) (fun _ h9 => h9) rfl dX8_move_138 ?_
          refine lv_iload hx hb dX8_move_141 (lv_at hl 0 rfl) ?_
          refine lv_iconst (v := 2) hx hb dX8_move_143 (by decide) ?_
          refine lv_iadd hx hb dX8_move_144 ?_
          refine lv_iload_n hx hb dX8_move_145 rfl (lv_at hl 5 rfl) ?_
          refine va_iast hx hb hK hP hD hS 1 0 rfl rfl (tb_in (mv_ok hmv c_6) (vin rfl)) dX8_move_146 (fun H locs hP1 hD1 hS1 => ?_)
          clear hP hD hS
          have hP : va_P (dC, dI) vwCl [(m0, .inr (8, mdL AM (upd g 12 0))), (AM 0, .inl (cY 0, 72, .inl (upd (upd (upd tb (12 * (g 1)).toNatClampNeg p0) ((12 * (g 1)) + 1).toNatClampNeg p1) ((12 * (g 1)) + 2).toNatClampNeg p2))), (AM 2, .inl (cY 0, 22, .inl sA)), (AM 3, .inl (cY 0, 22, .inl rd)), (AM 4, .inl (cY 0, 110, .inl kp)), (AM 5, .inl (cY 0, 8414, .inl td)), (AM 6, .inl (cY 0, 2, .inl wn)), (AM 13, .inl (cY 0, 4, .inl rw)), (AM 14, .inl (cY 0, 4, .inl br))] H := hP1
          have hD : va_D A [(m0, .inr (8, mdL AM (upd g 12 0))), (AM 0, .inl (cY 0, 72, .inl (upd (upd (upd tb (12 * (g 1)).toNatClampNeg p0) ((12 * (g 1)) + 1).toNatClampNeg p1) ((12 * (g 1)) + 2).toNatClampNeg p2))), (AM 2, .inl (cY 0, 22, .inl sA)), (AM 3, .inl (cY 0, 22, .inl rd)), (AM 4, .inl (cY 0, 110, .inl kp)), (AM 5, .inl (cY 0, 8414, .inl td)), (AM 6, .inl (cY 0, 2, .inl wn)), (AM 13, .inl (cY 0, 4, .inl rw)), (AM 14, .inl (cY 0, 4, .inl br))] := hD1
          have hS := hS1
          clear hP1 hD1 hS1
          refine lv_aload_n hx hb dX8_move_147 rfl (lv_at hl 2 rfl) ?_
          refine va_get (D := (dC, dI)) (ci := 8) (v := .ref (AM 0)) (C := RX8) (T := TX8) (N := 17) hx hb hts inw_X8_move_X8 hown hK hP 0 rfl rfl 0 (by decide) (hts (.fieldLink RX8 7 "DuelFramesModel" "table" "[I") (List.mem_of_getElem? (i := 3) rfl)) (fun _ h9 => h9) rfl dX8_move_148 ?_
          refine lv_iload hx hb dX8_move_151 (lv_at hl 0 rfl) ?_
          refine lv_iconst (v := 3) hx hb dX8_move_153 (by decide) ?_
          refine lv_iadd hx hb dX8_move_154 ?_
          refine lv_iload hx hb dX8_move_155 (lv_at hl 6 rfl) ?_
          refine va_iast hx hb hK hP hD hS 1 0 rfl rfl (tb_in (mv_ok hmv c_6) (vin rfl)) dX8_move_157 (fun H locs hP1 hD1 hS1 => ?_)
          clear hP hD hS
          have hP : va_P (dC, dI) vwCl [(m0, .inr (8, mdL AM (upd g 12 0))), (AM 0, .inl (cY 0, 72, .inl (upd (upd (upd (upd tb (12 * (g 1)).toNatClampNeg p0) ((12 * (g 1)) + 1).toNatClampNeg p1) ((12 * (g 1)) + 2).toNatClampNeg p2) ((12 * (g 1)) + 3).toNatClampNeg p3))), (AM 2, .inl (cY 0, 22, .inl sA)), (AM 3, .inl (cY 0, 22, .inl rd)), (AM 4, .inl (cY 0, 110, .inl kp)), (AM 5, .inl (cY 0, 8414, .inl td)), (AM 6, .inl (cY 0, 2, .inl wn)), (AM 13, .inl (cY 0, 4, .inl rw)), (AM 14, .inl (cY 0, 4, .inl br))] H := hP1
          have hD : va_D A [(m0, .inr (8, mdL AM (upd g 12 0))), (AM 0, .inl (cY 0, 72, .inl (upd (upd (upd (upd tb (12 * (g 1)).toNatClampNeg p0) ((12 * (g 1)) + 1).toNatClampNeg p1) ((12 * (g 1)) + 2).toNatClampNeg p2) ((12 * (g 1)) + 3).toNatClampNeg p3))), (AM 2, .inl (cY 0, 22, .inl sA)), (AM 3, .inl (cY 0, 22, .inl rd)), (AM 4, .inl (cY 0, 110, .inl kp)), (AM 5, .inl (cY 0, 8414, .inl td)), (AM 6, .inl (cY 0, 2, .inl wn)), (AM 13, .inl (cY 0, 4, .inl rw)), (AM 14, .inl (cY 0, 4, .inl br))] := hD1
          have hS := hS1
          clear hP1 hD1 hS1
          refine lv_aload_n hx hb dX8_move_158 rfl (lv_at hl 2 rfl) ?_
          refine va_get (D := (dC, dI)) (ci := 8) (v := .ref (AM 0)) (C := RX8) (T := TX8) (N := 17) hx hb hts inw_X8_move_X8 hown hK hP 0 rfl rfl 0 (by decide) (hts (.fieldLink RX8 7 "DuelFramesModel" "table" "[I") (List.mem_of_getElem? (i := 3) rfl)) (fun _ h9 => h9) rfl dX8_move_159 ?_
          refine lv_iload hx hb dX8_move_162 (lv_at hl 0 rfl) ?_
          refine lv_iconst (v := 4) hx hb dX8_move_164 (by decide) ?_
          refine lv_iadd hx hb dX8_move_165 ?_
          refine lv_iload hx hb dX8_move_166 (lv_at hl 7 rfl) ?_
          refine va_iast hx hb hK hP hD hS 1 0 rfl rfl (tb_in (mv_ok hmv c_6) (vin rfl)) dX8_move_168 (fun H locs hP1 hD1 hS1 => ?_)
          clear hP hD hS
          have hP : va_P (dC, dI) vwCl [(m0, .inr (8, mdL AM (upd g 12 0))), (AM 0, .inl (cY 0, 72, .inl (upd (upd (upd (upd (upd tb (12 * (g 1)).toNatClampNeg p0) ((12 * (g 1)) + 1).toNatClampNeg p1) ((12 * (g 1)) + 2).toNatClampNeg p2) ((12 * (g 1)) + 3).toNatClampNeg p3) ((12 * (g 1)) + 4).toNatClampNeg p4))), (AM 2, .inl (cY 0, 22, .inl sA)), (AM 3, .inl (cY 0, 22, .inl rd)), (AM 4, .inl (cY 0, 110, .inl kp)), (AM 5, .inl (cY 0, 8414, .inl td)), (AM 6, .inl (cY 0, 2, .inl wn)), (AM 13, .inl (cY 0, 4, .inl rw)), (AM 14, .inl (cY 0, 4, .inl br))] H := hP1
          have hD : va_D A [(m0, .inr (8, mdL AM (upd g 12 0))), (AM 0, .inl (cY 0, 72, .inl (upd (upd (upd (upd (upd tb (12 * (g 1)).toNatClampNeg p0) ((12 * (g 1)) + 1).toNatClampNeg p1) ((12 * (g 1)) + 2).toNatClampNeg p2) ((12 * (g 1)) + 3).toNatClampNeg p3) ((12 * (g 1)) + 4).toNatClampNeg p4))), (AM 2, .inl (cY 0, 22, .inl sA)), (AM 3, .inl (cY 0, 22, .inl rd)), (AM 4, .inl (cY 0, 110, .inl kp)), (AM 5, .inl (cY 0, 8414, .inl td)), (AM 6, .inl (cY 0, 2, .inl wn)), (AM 13, .inl (cY 0, 4, .inl rw)), (AM 14, .inl (cY 0, 4, .inl br))] := hD1
          have hS := hS1
          clear hP1 hD1 hS1
          refine lv_aload_n hx hb dX8_move_169 rfl (lv_at hl 2 rfl) ?_
          refine va_get (D := (dC, dI)) (ci := 8) (v := .ref (AM 0)) (C := RX8) (T := TX8) (N := 17) hx hb hts inw_X8_move_X8 hown hK hP 0 rfl rfl 0 (by decide) (hts (.fieldLink RX8 7 "DuelFramesModel" "table" "[I") (List.mem_of_getElem? (i := 3) rfl)) (fun _ h9 => h9) rfl dX8_move_170 ?_
          refine lv_iload hx hb dX8_move_173 (lv_at hl 0 rfl) ?_
          refine lv_iconst (v := 5) hx hb dX8_move_175 (by decide) ?_
          refine lv_iadd hx hb dX8_move_176 ?_
          refine lv_iload hx hb dX8_move_177 (lv_at hl 8 rfl) ?_
          refine va_iast hx hb hK hP hD hS 1 0 rfl rfl (tb_in (mv_ok hmv c_6) (vin rfl)) dX8_move_179 (fun H locs hP1 hD1 hS1 => ?_)
          clear hP hD hS
          have hP : va_P (dC, dI) vwCl [(m0, .inr (8, mdL AM (upd g 12 0))), (AM 0, .inl (cY 0, 72, .inl (upd (upd (upd (upd (upd (upd tb (12 * (g 1)).toNatClampNeg p0) ((12 * (g 1)) + 1).toNatClampNeg p1) ((12 * (g 1)) + 2).toNatClampNeg p2) ((12 * (g 1)) + 3).toNatClampNeg p3) ((12 * (g 1)) + 4).toNatClampNeg p4) ((12 * (g 1)) + 5).toNatClampNeg p5))), (AM 2, .inl (cY 0, 22, .inl sA)), (AM 3, .inl (cY 0, 22, .inl rd)), (AM 4, .inl (cY 0, 110, .inl kp)), (AM 5, .inl (cY 0, 8414, .inl td)), (AM 6, .inl (cY 0, 2, .inl wn)), (AM 13, .inl (cY 0, 4, .inl rw)), (AM 14, .inl (cY 0, 4, .inl br))] H := hP1
          have hD : va_D A [(m0, .inr (8, mdL AM (upd g 12 0))), (AM 0, .inl (cY 0, 72, .inl (upd (upd (upd (upd (upd (upd tb (12 * (g 1)).toNatClampNeg p0) ((12 * (g 1)) + 1).toNatClampNeg p1) ((12 * (g 1)) + 2).toNatClampNeg p2) ((12 * (g 1)) + 3).toNatClampNeg p3) ((12 * (g 1)) + 4).toNatClampNeg p4) ((12 * (g 1)) + 5).toNatClampNeg p5))), (AM 2, .inl (cY 0, 22, .inl sA)), (AM 3, .inl (cY 0, 22, .inl rd)), (AM 4, .inl (cY 0, 110, .inl kp)), (AM 5, .inl (cY 0, 8414, .inl td)), (AM 6, .inl (cY 0, 2, .inl wn)), (AM 13, .inl (cY 0, 4, .inl rw)), (AM 14, .inl (cY 0, 4, .inl br))] := hD1
          have hS := hS1
          clear hP1 hD1 hS1
          refine lv_aload_n hx hb dX8_move_180 rfl (lv_at hl 2 rfl) ?_
          refine va_get (D := (dC, dI)) (ci := 8) (v := .ref (AM 0)) (C := RX8) (T := TX8) (N := 17) hx hb hts inw_X8_move_X8 hown hK hP 0 rfl rfl 0 (by decide) (hts (.fieldLink RX8 7 "DuelFramesModel" "table" "[I") (List.mem_of_getElem? (i := 3) rfl)) (fun _ h9 => h9) rfl dX8_move_181 ?_
          refine lv_iload hx hb dX8_move_184 (lv_at hl 0 rfl) ?_
          refine lv_bipush (v := 6) hx hb dX8_move_186 (by decide) ?_
          refine lv_iadd hx hb dX8_move_188 ?_
          refine lv_bipush (v := 20) hx hb dX8_move_189 (by decide) ?_
          refine va_iast hx hb hK hP hD hS 1 0 rfl rfl (tb_in (mv_ok hmv c_6) (vin rfl)) dX8_move_191 (fun H locs hP1 hD1 hS1 => ?_)
          clear hP hD hS
          have hP : va_P (dC, dI) vwCl [(m0, .inr (8, mdL AM (upd g 12 0))), (AM 0, .inl (cY 0, 72, .inl (upd (upd (upd (upd (upd (upd (upd tb (12 * (g 1)).toNatClampNeg p0) ((12 * (g 1)) + 1).toNatClampNeg p1) ((12 * (g 1)) + 2).toNatClampNeg p2) ((12 * (g 1)) + 3).toNatClampNeg p3) ((12 * (g 1)) + 4).toNatClampNeg p4) ((12 * (g 1)) + 5).toNatClampNeg p5) ((12 * (g 1)) + 6).toNatClampNeg 20))), (AM 2, .inl (cY 0, 22, .inl sA)), (AM 3, .inl (cY 0, 22, .inl rd)), (AM 4, .inl (cY 0, 110, .inl kp)), (AM 5, .inl (cY 0, 8414, .inl td)), (AM 6, .inl (cY 0, 2, .inl wn)), (AM 13, .inl (cY 0, 4, .inl rw)), (AM 14, .inl (cY 0, 4, .inl br))] H := hP1
          have hD : va_D A [(m0, .inr (8, mdL AM (upd g 12 0))), (AM 0, .inl (cY 0, 72, .inl (upd (upd (upd (upd (upd (upd (upd tb (12 * (g 1)).toNatClampNeg p0) ((12 * (g 1)) + 1).toNatClampNeg p1) ((12 * (g 1)) + 2).toNatClampNeg p2) ((12 * (g 1)) + 3).toNatClampNeg p3) ((12 * (g 1)) + 4).toNatClampNeg p4) ((12 * (g 1)) + 5).toNatClampNeg p5) ((12 * (g 1)) + 6).toNatClampNeg 20))), (AM 2, .inl (cY 0, 22, .inl sA)), (AM 3, .inl (cY 0, 22, .inl rd)), (AM 4, .inl (cY 0, 110, .inl kp)), (AM 5, .inl (cY 0, 8414, .inl td)), (AM 6, .inl (cY 0, 2, .inl wn)), (AM 13, .inl (cY 0, 4, .inl rw)), (AM 14, .inl (cY 0, 4, .inl br))] := hD1
          have hS := hS1
          clear hP1 hD1 hS1
          refine lv_aload_n hx hb dX8_move_192 rfl (lv_at hl 2 rfl) ?_
          refine va_get (D := (dC, dI)) (ci := 8) (v := .ref (AM 0)) (C := RX8) (T := TX8) (N := 17) hx hb hts inw_X8_move_X8 hown hK hP 0 rfl rfl 0 (by decide) (hts (.fieldLink RX8 7 "DuelFramesModel" "table" "[I") (List.mem_of_getElem? (i := 3) rfl)) (fun _ h9 => h9) rfl dX8_move_193 ?_
          refine lv_iload hx hb dX8_move_196 (lv_at hl 0 rfl) ?_
          refine lv_bipush (v := 7) hx hb dX8_move_198 (by decide) ?_
          refine lv_iadd hx hb dX8_move_200 ?_
          refine lv_bipush (v := 12) hx hb dX8_move_201 (by decide) ?_
          refine va_iast hx hb hK hP hD hS 1 0 rfl rfl (tb_in (mv_ok hmv c_6) (vin rfl)) dX8_move_203 (fun H locs hP1 hD1 hS1 => ?_)
          clear hP hD hS
          have hP : va_P (dC, dI) vwCl [(m0, .inr (8, mdL AM (upd g 12 0))), (AM 0, .inl (cY 0, 72, .inl (upd (upd (upd (upd (upd (upd (upd (upd tb (12 * (g 1)).toNatClampNeg p0) ((12 * (g 1)) + 1).toNatClampNeg p1) ((12 * (g 1)) + 2).toNatClampNeg p2) ((12 * (g 1)) + 3).toNatClampNeg p3) ((12 * (g 1)) + 4).toNatClampNeg p4) ((12 * (g 1)) + 5).toNatClampNeg p5) ((12 * (g 1)) + 6).toNatClampNeg 20) ((12 * (g 1)) + 7).toNatClampNeg 12))), (AM 2, .inl (cY 0, 22, .inl sA)), (AM 3, .inl (cY 0, 22, .inl rd)), (AM 4, .inl (cY 0, 110, .inl kp)), (AM 5, .inl (cY 0, 8414, .inl td)), (AM 6, .inl (cY 0, 2, .inl wn)), (AM 13, .inl (cY 0, 4, .inl rw)), (AM 14, .inl (cY 0, 4, .inl br))] H := hP1
          have hD : va_D A [(m0, .inr (8, mdL AM (upd g 12 0))), (AM 0, .inl (cY 0, 72, .inl (upd (upd (upd (upd (upd (upd (upd (upd tb (12 * (g 1)).toNatClampNeg p0) ((12 * (g 1)) + 1).toNatClampNeg p1) ((12 * (g 1)) + 2).toNatClampNeg p2) ((12 * (g 1)) + 3).toNatClampNeg p3) ((12 * (g 1)) + 4).toNatClampNeg p4) ((12 * (g 1)) + 5).toNatClampNeg p5) ((12 * (g 1)) + 6).toNatClampNeg 20) ((12 * (g 1)) + 7).toNatClampNeg 12))), (AM 2, .inl (cY 0, 22, .inl sA)), (AM 3, .inl (cY 0, 22, .inl rd)), (AM 4, .inl (cY 0, 110, .inl kp)), (AM 5, .inl (cY 0, 8414, .inl td)), (AM 6, .inl (cY 0, 2, .inl wn)), (AM 13, .inl (cY 0, 4, .inl rw)), (AM 14, .inl (cY 0, 4, .inl br))] := hD1
          have hS := hS1
          clear hP1 hD1 hS1
          refine lv_aload_n hx hb dX8_move_204 rfl (lv_at hl 2 rfl) ?_
          refine va_get (D := (dC, dI)) (ci := 8) (v := .ref (AM 0)) (C := RX8) (T := TX8) (N := 17) hx hb hts inw_X8_move_X8 hown hK hP 0 rfl rfl 0 (by decide) (hts (.fieldLink RX8 7 "DuelFramesModel" "table" "[I") (List.mem_of_getElem? (i := 3) rfl)) (fun _ h9 => h9) rfl dX8_move_205 ?_
          refine lv_iload hx hb dX8_move_208 (lv_at hl 0 rfl) ?_
          refine lv_bipush (v := 8) hx hb dX8_move_210 (by decide) ?_
          refine lv_iadd hx hb dX8_move_212 ?_
          refine lv_bipush (v := 10) hx hb dX8_move_213 (by decide) ?_
          refine va_iast hx hb hK hP hD hS 1 0 rfl rfl (tb_in (mv_ok hmv c_6) (vin rfl)) dX8_move_215 (fun H locs hP1 hD1 hS1 => ?_)
          clear hP hD hS
          have hP : va_P (dC, dI) vwCl [(m0, .inr (8, mdL AM (upd g 12 0))), (AM 0, .inl (cY 0, 72, .inl (upd (upd (upd (upd (upd (upd (upd (upd (upd tb (12 * (g 1)).toNatClampNeg p0) ((12 * (g 1)) + 1).toNatClampNeg p1) ((12 * (g 1)) + 2).toNatClampNeg p2) ((12 * (g 1)) + 3).toNatClampNeg p3) ((12 * (g 1)) + 4).toNatClampNeg p4) ((12 * (g 1)) + 5).toNatClampNeg p5) ((12 * (g 1)) + 6).toNatClampNeg 20) ((12 * (g 1)) + 7).toNatClampNeg 12) ((12 * (g 1)) + 8).toNatClampNeg 10))), (AM 2, .inl (cY 0, 22, .inl sA)), (AM 3, .inl (cY 0, 22, .inl rd)), (AM 4, .inl (cY 0, 110, .inl kp)), (AM 5, .inl (cY 0, 8414, .inl td)), (AM 6, .inl (cY 0, 2, .inl wn)), (AM 13, .inl (cY 0, 4, .inl rw)), (AM 14, .inl (cY 0, 4, .inl br))] H := hP1
          have hD : va_D A [(m0, .inr (8, mdL AM (upd g 12 0))), (AM 0, .inl (cY 0, 72, .inl (upd (upd (upd (upd (upd (upd (upd (upd (upd tb (12 * (g 1)).toNatClampNeg p0) ((12 * (g 1)) + 1).toNatClampNeg p1) ((12 * (g 1)) + 2).toNatClampNeg p2) ((12 * (g 1)) + 3).toNatClampNeg p3) ((12 * (g 1)) + 4).toNatClampNeg p4) ((12 * (g 1)) + 5).toNatClampNeg p5) ((12 * (g 1)) + 6).toNatClampNeg 20) ((12 * (g 1)) + 7).toNatClampNeg 12) ((12 * (g 1)) + 8).toNatClampNeg 10))), (AM 2, .inl (cY 0, 22, .inl sA)), (AM 3, .inl (cY 0, 22, .inl rd)), (AM 4, .inl (cY 0, 110, .inl kp)), (AM 5, .inl (cY 0, 8414, .inl td)), (AM 6, .inl (cY 0, 2, .inl wn)), (AM 13, .inl (cY 0, 4, .inl rw)), (AM 14, .inl (cY 0, 4, .inl br))] := hD1
          have hS := hS1
          clear hP1 hD1 hS1
          refine lv_aload_n hx hb dX8_move_216 rfl (lv_at hl 2 rfl) ?_
          refine va_get (D := (dC, dI)) (ci := 8) (v := .ref (AM 0)) (C := RX8) (T := TX8) (N := 17) hx hb hts inw_X8_move_X8 hown hK hP 0 rfl rfl 0 (by decide) (hts (.fieldLink RX8 7 "DuelFramesModel" "table" "[I") (List.mem_of_getElem? (i := 3) rfl)) (fun _ h9 => h9) rfl dX8_move_217 ?_
          refine lv_iload hx hb dX8_move_220 (lv_at hl 0 rfl) ?_
          refine lv_bipush (v := 9) hx hb dX8_move_222 (by decide) ?_
          refine lv_iadd hx hb dX8_move_224 ?_
          refine lv_iconst (v := 0) hx hb dX8_move_225 (by decide) ?_
          refine va_iast hx hb hK hP hD hS 1 0 rfl rfl (tb_in (mv_ok hmv c_6) (vin rfl)) dX8_move_226 (fun H locs hP1 hD1 hS1 => ?_)
          clear hP hD hS
          have hP : va_P (dC, dI) vwCl [(m0, .inr (8, mdL AM (upd g 12 0))), (AM 0, .inl (cY 0, 72, .inl (upd (upd (upd (upd (upd (upd (upd (upd (upd (upd tb (12 * (g 1)).toNatClampNeg p0) ((12 * (g 1)) + 1).toNatClampNeg p1) ((12 * (g 1)) + 2).toNatClampNeg p2) ((12 * (g 1)) + 3).toNatClampNeg p3) ((12 * (g 1)) + 4).toNatClampNeg p4) ((12 * (g 1)) + 5).toNatClampNeg p5) ((12 * (g 1)) + 6).toNatClampNeg 20) ((12 * (g 1)) + 7).toNatClampNeg 12) ((12 * (g 1)) + 8).toNatClampNeg 10) ((12 * (g 1)) + 9).toNatClampNeg 0))), (AM 2, .inl (cY 0, 22, .inl sA)), (AM 3, .inl (cY 0, 22, .inl rd)), (AM 4, .inl (cY 0, 110, .inl kp)), (AM 5, .inl (cY 0, 8414, .inl td)), (AM 6, .inl (cY 0, 2, .inl wn)), (AM 13, .inl (cY 0, 4, .inl rw)), (AM 14, .inl (cY 0, 4, .inl br))] H := hP1
          have hD : va_D A [(m0, .inr (8, mdL AM (upd g 12 0))), (AM 0, .inl (cY 0, 72, .inl (upd (upd (upd (upd (upd (upd (upd (upd (upd (upd tb (12 * (g 1)).toNatClampNeg p0) ((12 * (g 1)) + 1).toNatClampNeg p1) ((12 * (g 1)) + 2).toNatClampNeg p2) ((12 * (g 1)) + 3).toNatClampNeg p3) ((12 * (g 1)) + 4).toNatClampNeg p4) ((12 * (g 1)) + 5).toNatClampNeg p5) ((12 * (g 1)) + 6).toNatClampNeg 20) ((12 * (g 1)) + 7).toNatClampNeg 12) ((12 * (g 1)) + 8).toNatClampNeg 10) ((12 * (g 1)) + 9).toNatClampNeg 0))), (AM 2, .inl (cY 0, 22, .inl sA)), (AM 3, .inl (cY 0, 22, .inl rd)), (AM 4, .inl (cY 0, 110, .inl kp)), (AM 5, .inl (cY 0, 8414, .inl td)), (AM 6, .inl (cY 0, 2, .inl wn)), (AM 13, .inl (cY 0, 4, .inl rw)), (AM 14, .inl (cY 0, 4, .inl br))] := hD1
          have hS := hS1
          clear hP1 hD1 hS1
          refine lv_aload_n hx hb dX8_move_227 rfl (lv_at hl 2 rfl) ?_
          refine va_get (D := (dC, dI)) (ci := 8) (v := .ref (AM 0)) (C := RX8) (T := TX8) (N := 17) hx hb hts inw_X8_move_X8 hown hK hP 0 rfl rfl 0 (by decide) (hts (.fieldLink RX8 7 "DuelFramesModel" "table" "[I") (List.mem_of_getElem? (i := 3) rfl)) (fun _ h9 => h9) rfl dX8_move_228 ?_
          refine lv_iload hx hb dX8_move_231 (lv_at hl 0 rfl) ?_
          refine lv_bipush (v := 10) hx hb dX8_move_233 (by decide) ?_
          refine lv_iadd hx hb dX8_move_235 ?_
          refine lv_iconst (v := 5) hx hb dX8_move_236 (by decide) ?_
          refine va_iast hx hb hK hP hD hS 1 0 rfl rfl (tb_in (mv_ok hmv c_6) (vin rfl)) dX8_move_237 (fun H locs hP1 hD1 hS1 => ?_)
          clear hP hD hS
          have hP : va_P (dC, dI) vwCl [(m0, .inr (8, mdL AM (upd g 12 0))), (AM 0, .inl (cY 0, 72, .inl (upd (upd (upd (upd (upd (upd (upd (upd (upd (upd (upd tb (12 * (g 1)).toNatClampNeg p0) ((12 * (g 1)) + 1).toNatClampNeg p1) ((12 * (g 1)) + 2).toNatClampNeg p2) ((12 * (g 1)) + 3).toNatClampNeg p3) ((12 * (g 1)) + 4).toNatClampNeg p4) ((12 * (g 1)) + 5).toNatClampNeg p5) ((12 * (g 1)) + 6).toNatClampNeg 20) ((12 * (g 1)) + 7).toNatClampNeg 12) ((12 * (g 1)) + 8).toNatClampNeg 10) ((12 * (g 1)) + 9).toNatClampNeg 0) ((12 * (g 1)) + 10).toNatClampNeg 5))), (AM 2, .inl (cY 0, 22, .inl sA)), (AM 3, .inl (cY 0, 22, .inl rd)), (AM 4, .inl (cY 0, 110, .inl kp)), (AM 5, .inl (cY 0, 8414, .inl td)), (AM 6, .inl (cY 0, 2, .inl wn)), (AM 13, .inl (cY 0, 4, .inl rw)), (AM 14, .inl (cY 0, 4, .inl br))] H := hP1
          have hD : va_D A [(m0, .inr (8, mdL AM (upd g 12 0))), (AM 0, .inl (cY 0, 72, .inl (upd (upd (upd (upd (upd (upd (upd (upd (upd (upd (upd tb (12 * (g 1)).toNatClampNeg p0) ((12 * (g 1)) + 1).toNatClampNeg p1) ((12 * (g 1)) + 2).toNatClampNeg p2) ((12 * (g 1)) + 3).toNatClampNeg p3) ((12 * (g 1)) + 4).toNatClampNeg p4) ((12 * (g 1)) + 5).toNatClampNeg p5) ((12 * (g 1)) + 6).toNatClampNeg 20) ((12 * (g 1)) + 7).toNatClampNeg 12) ((12 * (g 1)) + 8).toNatClampNeg 10) ((12 * (g 1)) + 9).toNatClampNeg 0) ((12 * (g 1)) + 10).toNatClampNeg 5))), (AM 2, .inl (cY 0, 22, .inl sA)), (AM 3, .inl (cY 0, 22, .inl rd)), (AM 4, .inl (cY 0, 110, .inl kp)), (AM 5, .inl (cY 0, 8414, .inl td)), (AM 6, .inl (cY 0, 2, .inl wn)), (AM 13, .inl (cY 0, 4, .inl rw)), (AM 14, .inl (cY 0, 4, .inl br))] := hD1
          have hS := hS1
          clear hP1 hD1 hS1
          refine lv_aload_n hx hb dX8_move_238 rfl (lv_at hl 2 rfl) ?_
          refine va_get (D := (dC, dI)) (ci := 8) (v := .ref (AM 0)) (C := RX8) (T := TX8) (N := 17) hx hb hts inw_X8_move_X8 hown hK hP 0 rfl rfl 0 (by decide) (hts (.fieldLink RX8 7 "DuelFramesModel" "table" "[I") (List.mem_of_getElem? (i := 3) rfl)) (fun _ h9 => h9) rfl dX8_move_239 ?_
          refine lv_iload hx hb dX8_move_242 (lv_at hl 0 rfl) ?_
          refine lv_bipush (v := 11) hx hb dX8_move_244 (by decide) ?_
          refine lv_iadd hx hb dX8_move_246 ?_
          refine lv_iconst (v := 0) hx hb dX8_move_247 (by decide) ?_
          refine va_iast hx hb hK hP hD hS 1 0 rfl rfl (tb_in (mv_ok hmv c_6) (vin rfl)) dX8_move_248 (fun H locs hP1 hD1 hS1 => ?_)
          clear hP hD hS
          have hP : va_P (dC, dI) vwCl [(m0, .inr (8, mdL AM (upd g 12 0))), (AM 0, .inl (cY 0, 72, .inl (upd (upd (upd (upd (upd (upd (upd (upd (upd (upd (upd (upd tb (12 * (g 1)).toNatClampNeg p0) ((12 * (g 1)) + 1).toNatClampNeg p1) ((12 * (g 1)) + 2).toNatClampNeg p2) ((12 * (g 1)) + 3).toNatClampNeg p3) ((12 * (g 1)) + 4).toNatClampNeg p4) ((12 * (g 1)) + 5).toNatClampNeg p5) ((12 * (g 1)) + 6).toNatClampNeg 20) ((12 * (g 1)) + 7).toNatClampNeg 12) ((12 * (g 1)) + 8).toNatClampNeg 10) ((12 * (g 1)) + 9).toNatClampNeg 0) ((12 * (g 1)) + 10).toNatClampNeg 5) ((12 * (g 1)) + 11).toNatClampNeg 0))), (AM 2, .inl (cY 0, 22, .inl sA)), (AM 3, .inl (cY 0, 22, .inl rd)), (AM 4, .inl (cY 0, 110, .inl kp)), (AM 5, .inl (cY 0, 8414, .inl td)), (AM 6, .inl (cY 0, 2, .inl wn)), (AM 13, .inl (cY 0, 4, .inl rw)), (AM 14, .inl (cY 0, 4, .inl br))] H := hP1
          have hD : va_D A [(m0, .inr (8, mdL AM (upd g 12 0))), (AM 0, .inl (cY 0, 72, .inl (upd (upd (upd (upd (upd (upd (upd (upd (upd (upd (upd (upd tb (12 * (g 1)).toNatClampNeg p0) ((12 * (g 1)) + 1).toNatClampNeg p1) ((12 * (g 1)) + 2).toNatClampNeg p2) ((12 * (g 1)) + 3).toNatClampNeg p3) ((12 * (g 1)) + 4).toNatClampNeg p4) ((12 * (g 1)) + 5).toNatClampNeg p5) ((12 * (g 1)) + 6).toNatClampNeg 20) ((12 * (g 1)) + 7).toNatClampNeg 12) ((12 * (g 1)) + 8).toNatClampNeg 10) ((12 * (g 1)) + 9).toNatClampNeg 0) ((12 * (g 1)) + 10).toNatClampNeg 5) ((12 * (g 1)) + 11).toNatClampNeg 0))), (AM 2, .inl (cY 0, 22, .inl sA)), (AM 3, .inl (cY 0, 22, .inl rd)), (AM 4, .inl (cY 0, 110, .inl kp)), (AM 5, .inl (cY 0, 8414, .inl td)), (AM 6, .inl (cY 0, 2, .inl wn)), (AM 13, .inl (cY 0, 4, .inl rw)), (AM 14, .inl (cY 0, 4, .inl br))] := hD1
          have hS := hS1
          clear hP1 hD1 hS1
          refine lv_aload_n hx hb dX8_move_249 rfl (lv_at hl 2 rfl) ?_
          refine lv_dup hx hb dX8_move_250 rfl ?_
          refine va_get (D := (dC, dI)) (ci := 8) (v := .int (g 1)) (C := RX8) (T := TX8) (N := 17) hx hb hts inw_X8_move_X8 hown hK hP 0 rfl rfl 1 (by decide) (hts (.fieldLink RX8 44 "DuelFramesModel" "moves" "I") (List.mem_of_getElem? (i := 1) rfl)) (fun _ h9 => h9) rfl dX8_move_251 ?_
          refine lv_iconst (v := 1) hx hb dX8_move_254 (by decide) ?_
          refine lv_iadd hx hb dX8_move_255 ?_
          refine va_put (D := (dC, dI)) (ci := 8) (v := .int ((g 1) + 1)) (ty := .int) (C := RX8) (T := TX8) (N := 17) hx hb hts inw_X8_move_X8 tyX8 tyX8_ok nmX8 hown hK hP hD hS 0 rfl rfl 1 (by decide) (hts (.fieldLink RX8 44 "DuelFramesModel" "moves" "I") (List.mem_of_getElem? (i := 1) rfl)) (fun _ h9 => h9) rfl (by decide +kernel) rfl rfl (Nat.le_of_ble_eq_true rfl) dX8_move_256 (fun H locs hP1 hD1 hS1 => ?_)
          clear hP hD hS
          have hP : va_P (dC, dI) vwCl [(m0, .inr (8, mdL AM (upd (upd g 12 0) 1 ((g 1) + 1)))), (AM 0, .inl (cY 0, 72, .inl (upd (upd (upd (upd (upd (upd (upd (upd (upd (upd (upd (upd tb (12 * (g 1)).toNatClampNeg p0) ((12 * (g 1)) + 1).toNatClampNeg p1) ((12 * (g 1)) + 2).toNatClampNeg p2) ((12 * (g 1)) + 3).toNatClampNeg p3) ((12 * (g 1)) + 4).toNatClampNeg p4) ((12 * (g 1)) + 5).toNatClampNeg p5) ((12 * (g 1)) + 6).toNatClampNeg 20) ((12 * (g 1)) + 7).toNatClampNeg 12) ((12 * (g 1)) + 8).toNatClampNeg 10) ((12 * (g 1)) + 9).toNatClampNeg 0) ((12 * (g 1)) + 10).toNatClampNeg 5) ((12 * (g 1)) + 11).toNatClampNeg 0))), (AM 2, .inl (cY 0, 22, .inl sA)), (AM 3, .inl (cY 0, 22, .inl rd)), (AM 4, .inl (cY 0, 110, .inl kp)), (AM 5, .inl (cY 0, 8414, .inl td)), (AM 6, .inl (cY 0, 2, .inl wn)), (AM 13, .inl (cY 0, 4, .inl rw)), (AM 14, .inl (cY 0, 4, .inl br))] H := hP1
          have hD : va_D A [(m0, .inr (8, mdL AM (upd (upd g 12 0) 1 ((g 1) + 1)))), (AM 0, .inl (cY 0, 72, .inl (upd (upd (upd (upd (upd (upd (upd (upd (upd (upd (upd (upd tb (12 * (g 1)).toNatClampNeg p0) ((12 * (g 1)) + 1).toNatClampNeg p1) ((12 * (g 1)) + 2).toNatClampNeg p2) ((12 * (g 1)) + 3).toNatClampNeg p3) ((12 * (g 1)) + 4).toNatClampNeg p4) ((12 * (g 1)) + 5).toNatClampNeg p5) ((12 * (g 1)) + 6).toNatClampNeg 20) ((12 * (g 1)) + 7).toNatClampNeg 12) ((12 * (g 1)) + 8).toNatClampNeg 10) ((12 * (g 1)) + 9).toNatClampNeg 0) ((12 * (g 1)) + 10).toNatClampNeg 5) ((12 * (g 1)) + 11).toNatClampNeg 0))), (AM 2, .inl (cY 0, 22, .inl sA)), (AM 3, .inl (cY 0, 22, .inl rd)), (AM 4, .inl (cY 0, 110, .inl kp)), (AM 5, .inl (cY 0, 8414, .inl td)), (AM 6, .inl (cY 0, 2, .inl wn)), (AM 13, .inl (cY 0, 4, .inl rw)), (AM 14, .inl (cY 0, 4, .inl br))] := hD1
          have hS := hS1
          clear hP1 hD1 hS1
          refine lv_aload_n hx hb dX8_move_259 rfl (lv_at hl 2 rfl) ?_
          refine va_get (D := (dC, dI)) (ci := 8) (v := .int ((g 1) + 1)) (C := RX8) (T := TX8) (N := 17) hx hb hts inw_X8_move_X8 hown hK hP 0 rfl rfl 1 (by decide) (hts (.fieldLink RX8 44 "DuelFramesModel" "moves" "I") (List.mem_of_getElem? (i := 1) rfl)) (fun _ h9 => h9) rfl dX8_move_260 ?_
          refine lv_iconst (v := 1) hx hb dX8_move_263 (by decide) ?_
          refine lv_isub hx hb dX8_move_264 ?_
          have eo_19 : (X8_move_r g p0 p1 p2 p3 p4 p5) = (((g 1) + 1) - 1) := by rw [X8_move_r]; simp only [eq_false c_5, eq_false c_6, eq_true c_14, ↓reduceIte]
          have eo_20 : (X8_move_w0 g p0 p1 p2 p3 p4 p5) = (upd (upd g 12 0) 1 ((g 1) + 1)) := by rw [X8_move_w0]; simp only [eq_false c_5, eq_false c_6, eq_true c_14, ↓reduceIte]
          have eo_21 : (X8_move_w1 g tb p0 p1 p2 p3 p4 p5) = (upd (upd (upd (upd (upd (upd (upd (upd (upd (upd (upd (upd tb (12 * (g 1)).toNatClampNeg p0) ((12 * (g 1)) + 1).toNatClampNeg p1) ((12 * (g 1)) + 2).toNatClampNeg p2) ((12 * (g 1)) + 3).toNatClampNeg p3) ((12 * (g 1)) + 4).toNatClampNeg p4) ((12 * (g 1)) + 5).toNatClampNeg p5) ((12 * (g 1)) + 6).toNatClampNeg 20) ((12 * (g 1)) + 7).toNatClampNeg 12) ((12 * (g 1)) + 8).toNatClampNeg 10) ((12 * (g 1)) + 9).toNatClampNeg 0) ((12 * (g 1)) + 10).toNatClampNeg 5) ((12 * (g 1)) + 11).toNatClampNeg 0) := by rw [X8_move_w1]; simp only [eq_false c_5, eq_false c_6, eq_true c_14, ↓reduceIte]
          have hP9 : va_P (dC, dI) vwCl [(m0, .inr (8, mdL AM (X8_move_w0 g p0 p1 p2 p3 p4 p5))), (AM 0, .inl (cY 0, 72, .inl (X8_move_w1 g tb p0 p1 p2 p3 p4 p5))), (AM 2, .inl (cY 0, 22, .inl sA)), (AM 3, .inl (cY 0, 22, .inl rd)), (AM 4, .inl (cY 0, 110, .inl kp)), (AM 5, .inl (cY 0, 8414, .inl td)), (AM 6, .inl (cY 0, 2, .inl wn)), (AM 13, .inl (cY 0, 4, .inl rw)), (AM 14, .inl (cY 0, 4, .inl br))] H := by simp only [eo_20, eo_21]; exact hP
          have hD9 : va_D A [(m0, .inr (8, mdL AM (X8_move_w0 g p0 p1 p2 p3 p4 p5))), (AM 0, .inl (cY 0, 72, .inl (X8_move_w1 g tb p0 p1 p2 p3 p4 p5))), (AM 2, .inl (cY 0, 22, .inl sA)), (AM 3, .inl (cY 0, 22, .inl rd)), (AM 4, .inl (cY 0, 110, .inl kp)), (AM 5, .inl (cY 0, 8414, .inl td)), (AM 6, .inl (cY 0, 2, .inl wn)), (AM 13, .inl (cY 0, 4, .inl rw)), (AM 14, .inl (cY 0, 4, .inl br))] := by simp only [eo_20, eo_21]; exact hD
          exact W.iret (v := (((g 1) + 1) - 1)) hx hb hr (fun t ht hW => ⟨⟨_, (), rfl, eo_19.symm, wPost_of hP9 hD9 ht⟩, hS.F ht⟩) hS.2.2 dX8_move_265
        · refine lv_iconst (v := 2) hx hb dX8_move_97 (by decide) ?_
          refine lv_goto (tgt := 102) hx hb dX8_move_98 (by decide) ?_
          have hPc := hP.sub (ws' := [(m0, .inr (8, mdL AM g)), (AM 0, .inl (cY 0, 72, .inl tb)), (AM 2, .inl (cY 0, 22, .inl sA)), (AM 3, .inl (cY 0, 22, .inl rd)), (AM 4, .inl (cY 0, 110, .inl kp)), (AM 5, .inl (cY 0, 8414, .inl td)), (AM 6, .inl (cY 0, 2, .inl wn)), (AM 13, .inl (cY 0, 4, .inl rw)), (AM 14, .inl (cY 0, 4, .inl br))]) [0, 1, 2, 3, 4, 5, 6, 7, 8] rfl
          have hDc := hD.sub (ws' := [(m0, .inr (8, mdL AM g)), (AM 0, .inl (cY 0, 72, .inl tb)), (AM 2, .inl (cY 0, 22, .inl sA)), (AM 3, .inl (cY 0, 22, .inl rd)), (AM 4, .inl (cY 0, 110, .inl kp)), (AM 5, .inl (cY 0, 8414, .inl td)), (AM 6, .inl (cY 0, 2, .inl wn)), (AM 13, .inl (cY 0, 4, .inl rw)), (AM 14, .inl (cY 0, 4, .inl br))]) [0, 1, 2, 3, 4, 5, 6, 7, 8] (by decide) rfl
          have hFc := va_free (wc := [(m0, .inr (8, mdL AM g)), (AM 0, .inl (cY 0, 72, .inl tb)), (AM 2, .inl (cY 0, 22, .inl sA)), (AM 3, .inl (cY 0, 22, .inl rd)), (AM 4, .inl (cY 0, 110, .inl kp)), (AM 5, .inl (cY 0, 8414, .inl td)), (AM 6, .inl (cY 0, 2, .inl wn)), (AM 13, .inl (cY 0, 4, .inl rw)), (AM 14, .inl (cY 0, 4, .inl br))]) hD hS hA [0, 1, 2, 3, 4, 5, 6, 7, 8] rfl
          refine va_calli (va_runV (As := [.int 2]) (rest := []) ⟨hx, hb, hml, hown, hts⟩ (c_X8_isFine l dC dI cY m0 AM g tb sA rd kp td wn rw br 2 H.size) (cwV 1 hts gX8_move_X8_isFine rfl rfl rfl (by decide +kernel) ⟨Nat.le_of_ble_eq_true rfl, Nat.le_of_ble_eq_true rfl⟩) ⟨blindW, va_recv hK hPc (ci := 8) (q0 := 0) rfl rfl, fun U hU hW => ⟨rfl, wPre_of hPc hK hN hDc U hU hW⟩⟩ rfl rfl hl.1 rfl (lv_room (Nat.le_of_ble_eq_true rfl)) dX8_move_102 ⟨Nat.zero_le _, Nat.zero_le _⟩) hS (fun q _ h => hFc q h) hFc (fun r_22 u t H1 locs ht hvm hw hB hz1 hk1 hS1 => ?_)
          obtain ⟨hw, hb_23⟩ := hw
          subst hw
          refine lv_topi (fun x_24 ex_24 => ?_)
          obtain rfl : x_24 = 0 := ex_24.trans (by decide)
          have hJ := wJoin (wr := []) (w1 := [(m0, .inr (8, mdL AM (upd g 12 2))), (AM 0, .inl (cY 0, 72, .inl tb)), (AM 2, .inl (cY 0, 22, .inl sA)), (AM 3, .inl (cY 0, 22, .inl rd)), (AM 4, .inl (cY 0, 110, .inl kp)), (AM 5, .inl (cY 0, 8414, .inl td)), (AM 6, .inl (cY 0, 2, .inl wn)), (AM 13, .inl (cY 0, 4, .inl rw)), (AM 14, .inl (cY 0, 4, .inl br))]) (wn := [(m0, .inr (8, mdL AM (upd g 12 2))), (AM 0, .inl (cY 0, 72, .inl tb)), (AM 2, .inl (cY 0, 22, .inl sA)), (AM 3, .inl (cY 0, 22, .inl rd)), (AM 4, .inl (cY 0, 110, .inl kp)), (AM 5, .inl (cY 0, 8414, .inl td)), (AM 6, .inl (cY 0, 2, .inl wn)), (AM 13, .inl (cY 0, 4, .inl rw)), (AM 14, .inl (cY 0, 4, .inl br))]) hP hD [0, 1, 2, 3, 4, 5, 6, 7, 8] [] rfl rfl (by decide) (by decide) hk1 hFc hB ht [0, 1, 2, 3, 4, 5, 6, 7, 8] rfl (by decide)
          clear hB hk1 hFc hPc hDc hP hD hS hz1 hvm ht t
          obtain ⟨hP1, hD1⟩ := hJ
          generalize H1 = H at hP1 hS1 ⊢
          have hP : va_P (dC, dI) vwCl [(m0, .inr (8, mdL AM (upd g 12 2))), (AM 0, .inl (cY 0, 72, .inl tb)), (AM 2, .inl (cY 0, 22, .inl sA)), (AM 3, .inl (cY 0, 22, .inl rd)), (AM 4, .inl (cY 0, 110, .inl kp)), (AM 5, .inl (cY 0, 8414, .inl td)), (AM 6, .inl (cY 0, 2, .inl wn)), (AM 13, .inl (cY 0, 4, .inl rw)), (AM 14, .inl (cY 0, 4, .inl br))] H := hP1
          have hD : va_D A [(m0, .inr (8, mdL AM (upd g 12 2))), (AM 0, .inl (cY 0, 72, .inl tb)), (AM 2, .inl (cY 0, 22, .inl sA)), (AM 3, .inl (cY 0, 22, .inl rd)), (AM 4, .inl (cY 0, 110, .inl kp)), (AM 5, .inl (cY 0, 8414, .inl td)), (AM 6, .inl (cY 0, 2, .inl wn)), (AM 13, .inl (cY 0, 4, .inl rw)), (AM 14, .inl (cY 0, 4, .inl br))] := hD1
          have hS := hS1
          clear hP1 hD1 hS1
          refine lv_if_ne (tgt := 110) hx hb dX8_move_105 (by decide) (fun c_25 => ?_) (fun c_25 => ?_)
          · exact absurd (by decide) c_25
          refine lv_iconst (v := 0) hx hb dX8_move_108 (by decide) ?_
          have eo_26 : (X8_move_r g p0 p1 p2 p3 p4 p5) = 0 := by rw [X8_move_r]; simp only [eq_false c_5, eq_false c_6, eq_false c_14, ↓reduceIte]
          have eo_27 : (X8_move_w0 g p0 p1 p2 p3 p4 p5) = (upd g 12 2) := by rw [X8_move_w0]; simp only [eq_false c_5, eq_false c_6, eq_false c_14, ↓reduceIte]
          have eo_28 : (X8_move_w1 g tb p0 p1 p2 p3 p4 p5) = tb := by rw [X8_move_w1]; simp only [eq_false c_5, eq_false c_6, eq_false c_14, ↓reduceIte]
          have hP9 : va_P (dC, dI) vwCl [(m0, .inr (8, mdL AM (X8_move_w0 g p0 p1 p2 p3 p4 p5))), (AM 0, .inl (cY 0, 72, .inl (X8_move_w1 g tb p0 p1 p2 p3 p4 p5))), (AM 2, .inl (cY 0, 22, .inl sA)), (AM 3, .inl (cY 0, 22, .inl rd)), (AM 4, .inl (cY 0, 110, .inl kp)), (AM 5, .inl (cY 0, 8414, .inl td)), (AM 6, .inl (cY 0, 2, .inl wn)), (AM 13, .inl (cY 0, 4, .inl rw)), (AM 14, .inl (cY 0, 4, .inl br))] H := by simp only [eo_27, eo_28]; exact hP
          have hD9 : va_D A [(m0, .inr (8, mdL AM (X8_move_w0 g p0 p1 p2 p3 p4 p5))), (AM 0, .inl (cY 0, 72, .inl (X8_move_w1 g tb p0 p1 p2 p3 p4 p5))), (AM 2, .inl (cY 0, 22, .inl sA)), (AM 3, .inl (cY 0, 22, .inl rd)), (AM 4, .inl (cY 0, 110, .inl kp)), (AM 5, .inl (cY 0, 8414, .inl td)), (AM 6, .inl (cY 0, 2, .inl wn)), (AM 13, .inl (cY 0, 4, .inl rw)), (AM 14, .inl (cY 0, 4, .inl br))] := by simp only [eo_27, eo_28]; exact hD
          exact W.iret (v := 0) hx hb hr (fun t ht hW => ⟨⟨_, (), rfl, eo_26.symm, wPost_of hP9 hD9 ht⟩, hS.F ht⟩) hS.2.2 dX8_move_109
    · refine lv_iconst (v := 1) hx hb dX8_move_77 (by decide) ?_
      refine lv_goto (tgt := 102) hx hb dX8_move_78 (by decide) ?_
      have hPc := hP.sub (ws' := [(m0, .inr (8, mdL AM g)), (AM 0, .inl (cY 0, 72, .inl tb)), (AM 2, .inl (cY 0, 22, .inl sA)), (AM 3, .inl (cY 0, 22, .inl rd)), (AM 4, .inl (cY 0, 110, .inl kp)), (AM 5, .inl (cY 0, 8414, .inl td)), (AM 6, .inl (cY 0, 2, .inl wn)), (AM 13, .inl (cY 0, 4, .inl rw)), (AM 14, .inl (cY 0, 4, .inl br))]) [0, 1, 2, 3, 4, 5, 6, 7, 8] rfl
      have hDc := hD.sub (ws' := [(m0, .inr (8, mdL AM g)), (AM 0, .inl (cY 0, 72, .inl tb)), (AM 2, .inl (cY 0, 22, .inl sA)), (AM 3, .inl (cY 0, 22, .inl rd)), (AM 4, .inl (cY 0, 110, .inl kp)), (AM 5, .inl (cY 0, 8414, .inl td)), (AM 6, .inl (cY 0, 2, .inl wn)), (AM 13, .inl (cY 0, 4, .inl rw)), (AM 14, .inl (cY 0, 4, .inl br))]) [0, 1, 2, 3, 4, 5, 6, 7, 8] (by decide) rfl
      have hFc := va_free (wc := [(m0, .inr (8, mdL AM g)), (AM 0, .inl (cY 0, 72, .inl tb)), (AM 2, .inl (cY 0, 22, .inl sA)), (AM 3, .inl (cY 0, 22, .inl rd)), (AM 4, .inl (cY 0, 110, .inl kp)), (AM 5, .inl (cY 0, 8414, .inl td)), (AM 6, .inl (cY 0, 2, .inl wn)), (AM 13, .inl (cY 0, 4, .inl rw)), (AM 14, .inl (cY 0, 4, .inl br))]) hD hS hA [0, 1, 2, 3, 4, 5, 6, 7, 8] rfl
      refine va_calli (va_runV (As := [.int 1]) (rest := []) ⟨hx, hb, hml, hown, hts⟩ (c_X8_isFine l dC dI cY m0 AM g tb sA rd kp td wn rw br 1 H.size) (cwV 1 hts gX8_move_X8_isFine rfl rfl rfl (by decide +kernel) ⟨Nat.le_of_ble_eq_true rfl, Nat.le_of_ble_eq_true rfl⟩) ⟨blindW, va_recv hK hPc (ci := 8) (q0 := 0) rfl rfl, fun U hU hW => ⟨rfl, wPre_of hPc hK hN hDc U hU hW⟩⟩ rfl rfl hl.1 rfl (lv_room (Nat.le_of_ble_eq_true rfl)) dX8_move_102 ⟨Nat.zero_le _, Nat.zero_le _⟩) hS (fun q _ h => hFc q h) hFc (fun r_29 u t H1 locs ht hvm hw hB hz1 hk1 hS1 => ?_)
      obtain ⟨hw, hb_30⟩ := hw
      subst hw
      refine lv_topi (fun x_31 ex_31 => ?_)
      obtain rfl : x_31 = 0 := ex_31.trans (by decide)
      have hJ := wJoin (wr := []) (w1 := [(m0, .inr (8, mdL AM (upd g 12 1))), (AM 0, .inl (cY 0, 72, .inl tb)), (AM 2, .inl (cY 0, 22, .inl sA)), (AM 3, .inl (cY 0, 22, .inl rd)), (AM 4, .inl (cY 0, 110, .inl kp)), (AM 5, .inl (cY 0, 8414, .inl td)), (AM 6, .inl (cY 0, 2, .inl wn)), (AM 13, .inl (cY 0, 4, .inl rw)), (AM 14, .inl (cY 0, 4, .inl br))]) (wn := [(m0, .inr (8, mdL AM (upd g 12 1))), (AM 0, .inl (cY 0, 72, .inl tb)), (AM 2, .inl (cY 0, 22, .inl sA)), (AM 3, .inl (cY 0, 22, .inl rd)), (AM 4, .inl (cY 0, 110, .inl kp)), (AM 5, .inl (cY 0, 8414, .inl td)), (AM 6, .inl (cY 0, 2, .inl wn)), (AM 13, .inl (cY 0, 4, .inl rw)), (AM 14, .inl (cY 0, 4, .inl br))]) hP hD [0, 1, 2, 3, 4, 5, 6, 7, 8] [] rfl rfl (by decide) (by decide) hk1 hFc hB ht [0, 1, 2, 3, 4, 5, 6, 7, 8] rfl (by decide)
      clear hB hk1 hFc hPc hDc hP hD hS hz1 hvm ht t
      obtain ⟨hP1, hD1⟩ := hJ
      generalize H1 = H at hP1 hS1 ⊢
      have hP : va_P (dC, dI) vwCl [(m0, .inr (8, mdL AM (upd g 12 1))), (AM 0, .inl (cY 0, 72, .inl tb)), (AM 2, .inl (cY 0, 22, .inl sA)), (AM 3, .inl (cY 0, 22, .inl rd)), (AM 4, .inl (cY 0, 110, .inl kp)), (AM 5, .inl (cY 0, 8414, .inl td)), (AM 6, .inl (cY 0, 2, .inl wn)), (AM 13, .inl (cY 0, 4, .inl rw)), (AM 14, .inl (cY 0, 4, .inl br))] H := hP1
      have hD : va_D A [(m0, .inr (8, mdL AM (upd g 12 1))), (AM 0, .inl (cY 0, 72, .inl tb)), (AM 2, .inl (cY 0, 22, .inl sA)), (AM 3, .inl (cY 0, 22, .inl rd)), (AM 4, .inl (cY 0, 110, .inl kp)), (AM 5, .inl (cY 0, 8414, .inl td)), (AM 6, .inl (cY 0, 2, .inl wn)), (AM 13, .inl (cY 0, 4, .inl rw)), (AM 14, .inl (cY 0, 4, .inl br))] := hD1
      have hS := hS1
      clear hP1 hD1 hS1
      refine lv_if_ne (tgt := 110) hx hb dX8_move_105 (by decide) (fun c_32 => ?_) (fun c_32 => ?_)
      · exact absurd (by decide) c_32
      refine lv_iconst (v := 0) hx hb dX8_move_108 (by decide) ?_
      have eo_33 : (X8_move_r g p0 p1 p2 p3 p4 p5) = 0 := by rw [X8_move_r]; simp only [eq_true c_5, ↓reduceIte]
      have eo_34 : (X8_move_w0 g p0 p1 p2 p3 p4 p5) = (upd g 12 1) := by rw [X8_move_w0]; simp only [eq_true c_5, ↓reduceIte]
      have eo_35 : (X8_move_w1 g tb p0 p1 p2 p3 p4 p5) = tb := by rw [X8_move_w1]; simp only [eq_true c_5, ↓reduceIte]
      have hP9 : va_P (dC, dI) vwCl [(m0, .inr (8, mdL AM (X8_move_w0 g p0 p1 p2 p3 p4 p5))), (AM 0, .inl (cY 0, 72, .inl (X8_move_w1 g tb p0 p1 p2 p3 p4 p5))), (AM 2, .inl (cY 0, 22, .inl sA)), (AM 3, .inl (cY 0, 22, .inl rd)), (AM 4, .inl (cY 0, 110, .inl kp)), (AM 5, .inl (cY 0, 8414, .inl td)), (AM 6, .inl (cY 0, 2, .inl wn)), (AM 13, .inl (cY 0, 4, .inl rw)), (AM 14, .inl (cY 0, 4, .inl br))] H := by simp only [eo_34, eo_35]; exact hP
      have hD9 : va_D A [(m0, .inr (8, mdL AM (X8_move_w0 g p0 p1 p2 p3 p4 p5))), (AM 0, .inl (cY 0, 72, .inl (X8_move_w1 g tb p0 p1 p2 p3 p4 p5))), (AM 2, .inl (cY 0, 22, .inl sA)), (AM 3, .inl (cY 0, 22, .inl rd)), (AM 4, .inl (cY 0, 110, .inl kp)), (AM 5, .inl (cY 0, 8414, .inl td)), (AM 6, .inl (cY 0, 2, .inl wn)), (AM 13, .inl (cY 0, 4, .inl rw)), (AM 14, .inl (cY 0, 4, .inl br))] := by simp only [eo_34, eo_35]; exact hD
      exact W.iret (v := 0) hx hb hr (fun t ht hW => ⟨⟨_, (), rfl, eo_33.symm, wPost_of hP9 hD9 ht⟩, hS.F ht⟩) hS.2.2 dX8_move_109
  · intro jn_4
    refine lv_if_eq (tgt := 68) hx hb dX8_move_7 (by decide) (fun c_3 => ?_) (fun c_3 => ?_)
    · refine lv_iconst (v := 0) hx hb dX8_move_68 (by decide) ?_
      have e_36 : (X8_move_j69 p0 p1 p2 p3 p4 p5) = 0 := by rw [X8_move_j69]; simp only [eq_true c_3, ↓reduceIte]
      refine W.eq (g2 := F0 m 69 ls [.int (X8_move_j69 p0 p1 p2 p3 p4 p5)]) (by simp only [e_36]) ?_
      exact jn_4 _ _ _ (by (try simp only [e_36]); exact hP) (by (try simp only [e_36]); exact hD) hS (by (try simp only [e_36]); exact (lv_sub hl [0, 1, 2, 3, 4, 5, 6] rfl))
    · refine lv_iload_n hx hb dX8_move_10 rfl (lv_at hl 2 rfl) ?_
      refine lv_iconst (v := 1) hx hb dX8_move_11 (by decide) ?_
      refine lv_bipush (v := 10) hx hb dX8_move_12 (by decide) ?_
      have hPc := hP.sub (ws' := []) [] rfl
      refine vp_callSi (W.runS (As := [.int p1, .int 1, .int 10]) (rest := []) ⟨hx, hb, hml, hown, hts⟩ (c_X8_in l dC dI cY p1 1 10) (va_cwS 3 hts gX8_move_X8_in rfl rfl rfl (by decide +kernel) ⟨Nat.le_of_ble_eq_true rfl, Nat.le_of_ble_eq_true rfl⟩) ⟨blindR, fun U hU hW => ⟨rfl, rPre_of hPc hK hN U hU hW⟩⟩ rfl rfl hl.1 rfl (lv_room (Nat.le_of_ble_eq_true rfl)) dX8_move_14 ⟨Nat.zero_le _, Nat.zero_le _⟩) (fun r_37 hw => ?_)
      obtain ⟨hw, hb_38⟩ := hw
      subst hw
      refine lv_if_eq (tgt := 68) hx hb dX8_move_17 (by decide) (fun c_39 => ?_) (fun c_39 => ?_)
      · refine lv_iconst (v := 0) hx hb dX8_move_68 (by decide) ?_
        have e_40 : (X8_move_j69 p0 p1 p2 p3 p4 p5) = 0 := by rw [X8_move_j69]; simp only [eq_false c_3, eq_true c_39, ↓reduceIte]
        refine W.eq (g2 := F0 m 69 ls [.int (X8_move_j69 p0 p1 p2 p3 p4 p5)]) (by simp only [e_40]) ?_
        exact jn_4 _ _ _ (by (try simp only [e_40]); exact hP) (by (try simp only [e_40]); exact hD) hS (by (try simp only [e_40]); exact (lv_sub hl [0, 1, 2, 3, 4, 5, 6] rfl))
      · refine lv_iload_n hx hb dX8_move_20 rfl (lv_at hl 3 rfl) ?_
        refine lv_iconst (v := 1) hx hb dX8_move_21 (by decide) ?_
        refine lv_bipush (v := 40) hx hb dX8_move_22 (by decide) ?_
        have hPc := hP.sub (ws' := []) [] rfl
        refine vp_callSi (W.runS (As := [.int p2, .int 1, .int 40]) (rest := []) ⟨hx, hb, hml, hown, hts⟩ (c_X8_in l dC dI cY p2 1 40) (va_cwS 3 hts gX8_move_X8_in rfl rfl rfl (by decide +kernel) ⟨Nat.le_of_ble_eq_true rfl, Nat.le_of_ble_eq_true rfl⟩) ⟨blindR, fun U hU hW => ⟨rfl, rPre_of hPc hK hN U hU hW⟩⟩ rfl rfl hl.1 rfl (lv_room (Nat.le_of_ble_eq_true rfl)) dX8_move_24 ⟨Nat.zero_le _, Nat.zero_le _⟩) (fun r_41 hw => ?_)
        obtain ⟨hw, hb_42⟩ := hw
        subst hw
        refine lv_if_eq (tgt := 68) hx hb dX8_move_27 (by decide) (fun c_43 => ?_) (fun c_43 => ?_)
        · refine lv_iconst (v := 0) hx hb dX8_move_68 (by decide) ?_
          have e_44 : (X8_move_j69 p0 p1 p2 p3 p4 p5) = 0 := by rw [X8_move_j69]; simp only [eq_false c_3, eq_false c_39, eq_true c_43, ↓reduceIte]
          refine W.eq (g2 := F0 m 69 ls [.int (X8_move_j69 p0 p1 p2 p3 p4 p5)]) (by simp only [e_44]) ?_
          exact jn_4 _ _ _ (by (try simp only [e_44]); exact hP) (by (try simp only [e_44]); exact hD) hS (by (try simp only [e_44]); exact (lv_sub hl [0, 1, 2, 3, 4, 5, 6] rfl))
        · refine lv_iload hx hb dX8_move_30 (lv_at hl 4 rfl) ?_
          refine lv_iconst (v := 1) hx hb dX8_move_32 (by decide) ?_
          refine lv_sipush (v := 150) hx hb dX8_move_33 (by decide) ?_
          have hPc := hP.sub (ws' := []) [] rfl
          refine vp_callSi (W.runS (As := [.int p3, .int 1, .int 150]) (rest := []) ⟨hx, hb, hml, hown, hts⟩ (c_X8_in l dC dI cY p3 1 150) (va_cwS 3 hts gX8_move_X8_in rfl rfl rfl (by decide +kernel) ⟨Nat.le_of_ble_eq_true rfl, Nat.le_of_ble_eq_true rfl⟩) ⟨blindR, fun U hU hW => ⟨rfl, rPre_of hPc hK hN U hU hW⟩⟩ rfl rfl hl.1 rfl (lv_room (Nat.le_of_ble_eq_true rfl)) dX8_move_36 ⟨Nat.zero_le _, Nat.zero_le _⟩) (fun r_45 hw => ?_)
          obtain ⟨hw, hb_46⟩ := hw
          subst hw
          refine lv_if_eq (tgt := 68) hx hb dX8_move_39 (by decide) (fun c_47 => ?_) (fun c_47 => ?_)
          · refine lv_iconst (v := 0) hx hb dX8_move_68 (by decide) ?_
            have e_48 : (X8_move_j69 p0 p1 p2 p3 p4 p5) = 0 := by rw [X8_move_j69]; simp only [eq_false c_3, eq_false c_39, eq_false c_43, eq_true c_47, ↓reduceIte]
            refine W.eq (g2 := F0 m 69 ls [.int (X8_move_j69 p0 p1 p2 p3 p4 p5)]) (by simp only [e_48]) ?_
            exact jn_4 _ _ _ (by (try simp only [e_48]); exact hP) (by (try simp only [e_48]); exact hD) hS (by (try simp only [e_48]); exact (lv_sub hl [0, 1, 2, 3, 4, 5, 6] rfl))
          · refine lv_iload hx hb dX8_move_42 (lv_at hl 5 rfl) ?_
            refine lv_iconst (v := 0) hx hb dX8_move_44 (by decide) ?_
            refine lv_iconst (v := 3) hx hb dX8_move_45 (by decide) ?_
            have hPc := hP.sub (ws' := []) [] rfl
            refine vp_callSi (W.runS (As := [.int p4, .int 0, .int 3]) (rest := []) ⟨hx, hb, hml, hown, hts⟩ (c_X8_in l dC dI cY p4 0 3) (va_cwS 3 hts gX8_move_X8_in rfl rfl rfl (by decide +kernel) ⟨Nat.le_of_ble_eq_true rfl, Nat.le_of_ble_eq_true rfl⟩) ⟨blindR, fun U hU hW => ⟨rfl, rPre_of hPc hK hN U hU hW⟩⟩ rfl rfl hl.1 rfl (lv_room (Nat.le_of_ble_eq_true rfl)) dX8_move_46 ⟨Nat.zero_le _, Nat.zero_le _⟩) (fun r_49 hw => ?_)
            obtain ⟨hw, hb_50⟩ := hw
            subst hw
            refine lv_if_eq (tgt := 68) hx hb dX8_move_49 (by decide) (fun c_51 => ?_) (fun c_51 => ?_)
            · refine lv_iconst (v := 0) hx hb dX8_move_68 (by decide) ?_
              have e_52 : (X8_move_j69 p0 p1 p2 p3 p4 p5) = 0 := by rw [X8_move_j69]; simp only [eq_false c_3, eq_false c_39, eq_false c_43, eq_false c_47, eq_true c_51, ↓reduceIte]
              refine W.eq (g2 := F0 m 69 ls [.int (X8_move_j69 p0 p1 p2 p3 p4 p5)]) (by simp only [e_52]) ?_
              exact jn_4 _ _ _ (by (try simp only [e_52]); exact hP) (by (try simp only [e_52]); exact hD) hS (by (try simp only [e_52]); exact (lv_sub hl [0, 1, 2, 3, 4, 5, 6] rfl))
            · refine lv_iload hx hb dX8_move_52 (lv_at hl 6 rfl) ?_
              refine lv_iconst (v := 1) hx hb dX8_move_54 (by decide) ?_
              refine lv_sipush (v := 200) hx hb dX8_move_55 (by decide) ?_
              have hPc := hP.sub (ws' := []) [] rfl
              refine vp_callSi (W.runS (As := [.int p5, .int 1, .int 200]) (rest := []) ⟨hx, hb, hml, hown, hts⟩ (c_X8_in l dC dI cY p5 1 200) (va_cwS 3 hts gX8_move_X8_in rfl rfl rfl (by decide +kernel) ⟨Nat.le_of_ble_eq_true rfl, Nat.le_of_ble_eq_true rfl⟩) ⟨blindR, fun U hU hW => ⟨rfl, rPre_of hPc hK hN U hU hW⟩⟩ rfl rfl hl.1 rfl (lv_room (Nat.le_of_ble_eq_true rfl)) dX8_move_58 ⟨Nat.zero_le _, Nat.zero_le _⟩) (fun r_53 hw => ?_)
              obtain ⟨hw, hb_54⟩ := hw
              subst hw
              refine lv_if_eq (tgt := 68) hx hb dX8_move_61 (by decide) (fun c_55 => ?_) (fun c_55 => ?_)
              · refine lv_iconst (v := 0) hx hb dX8_move_68 (by decide) ?_
                have e_56 : (X8_move_j69 p0 p1 p2 p3 p4 p5) = 0 := by rw [X8_move_j69]; simp only [eq_false c_3, eq_false c_39, eq_false c_43, eq_false c_47, eq_false c_51, eq_true c_55, ↓reduceIte]
                refine W.eq (g2 := F0 m 69 ls [.int (X8_move_j69 p0 p1 p2 p3 p4 p5)]) (by simp only [e_56]) ?_
                exact jn_4 _ _ _ (by (try simp only [e_56]); exact hP) (by (try simp only [e_56]); exact hD) hS (by (try simp only [e_56]); exact (lv_sub hl [0, 1, 2, 3, 4, 5, 6] rfl))
              · refine lv_iconst (v := 1) hx hb dX8_move_64 (by decide) ?_
                refine lv_goto (tgt := 69) hx hb dX8_move_65 (by decide) ?_
                have e_57 : (X8_move_j69 p0 p1 p2 p3 p4 p5) = 1 := by rw [X8_move_j69]; simp only [eq_false c_3, eq_false c_39, eq_false c_43, eq_false c_47, eq_false c_51, eq_false c_55, ↓reduceIte]
                refine W.eq (g2 := F0 m 69 ls [.int (X8_move_j69 p0 p1 p2 p3 p4 p5)]) (by simp only [e_57]) ?_
                exact jn_4 _ _ _ (by (try simp only [e_57]); exact hP) (by (try simp only [e_57]); exact hD) hS (by (try simp only [e_57]); exact (lv_sub hl [0, 1, 2, 3, 4, 5, 6] rfl))
theorem inw_X8_patch_X8 : ∀ w ∈ u_ws RX8 TX8 17, w ∈ wsX8_patch := fun _ h => List.mem_cons_of_mem _ (List.mem_append_right _ h)
def X8_patch_r (g : Nat → Int32) (tb : Nat → Int32) (move : Int32) (value : Int32) (what : Int32) : Int32 := (if (X8_in_r ((g 1) - 1) 0 move) = 0 then 0 else (if (X8_in_r 4 0 what) = 0 then 0 else (if (X8_in_r 60 0 value) = 0 then 0 else (if (g 9) = 0 then (tb (((12 * move) + 6) + what).toNatClampNeg) else 0))))
def X8_patch_w0 (g : Nat → Int32) (move : Int32) (value : Int32) (what : Int32) : Nat → Int32 := (if (X8_in_r ((g 1) - 1) 0 move) = 0 then (upd g 12 1) else (if (X8_in_r 4 0 what) = 0 then (upd g 12 2) else (if (X8_in_r 60 0 value) = 0 then (upd g 12 2) else (if (g 9) = 0 then (upd g 12 0) else (upd g 12 3)))))
def X8_patch_w1 (g : Nat → Int32) (tb : Nat → Int32) (move : Int32) (value : Int32) (what : Int32) : Nat → Int32 := (if (X8_in_r ((g 1) - 1) 0 move) = 0 then tb else (if (X8_in_r 4 0 what) = 0 then tb else (if (X8_in_r 60 0 value) = 0 then tb else (if (g 9) = 0 then (upd tb (((12 * move) + 6) + what).toNatClampNeg value) else tb))))
set_option maxHeartbeats 4000000 in
set_option maxRecDepth 100000 in
theorem c_X8_patch (l : Launch) (dC : Nat → ClassId) (dI : Nat → Nat → Nat) (cY : Nat → ClassId) (m0 : Nat) (AM : Nat → Nat) (g : Nat → Int32) (tb : Nat → Int32) (sA : Nat → Int32) (rd : Nat → Int32) (kp : Nat → Int32) (td : Nat → Int32) (wn : Nat → Int32) (rw : Nat → Int32) (br : Nat → Int32) (move : Int32) (what : Int32) (value : Int32) (hmv : vp_in (g 1) 7) (sz : Nat) : Met l yX8_patch wsX8_patch ({ frames := 2, cells := 0, slots := 0, locals := 43 } : Room) (va_Pc [.ref m0, .int move, .int what, .int value] (wPre (dC, dI) (tyL cY) [(m0, .inr (8, mdL AM g)), (AM 0, .inl (cY 0, 72, .inl tb)), (AM 2, .inl (cY 0, 22, .inl sA)), (AM 3, .inl (cY 0, 22, .inl rd)), (AM 4, .inl (cY 0, 110, .inl kp)), (AM 5, .inl (cY 0, 8414, .inl td)), (AM 6, .inl (cY 0, 2, .inl wn)), (AM 13, .inl (cY 0, 4, .inl rw)), (AM 14, .inl (cY 0, 4, .inl br))] sz)) (va_Qi (fun (r : Int32) (_ : Unit) => r = (X8_patch_r g tb move value what)) (wPost (dC, dI) [(m0, .inr (8, mdL AM (X8_patch_w0 g move value what))), (AM 0, .inl (cY 0, 72, .inl (X8_patch_w1 g tb move value what))), (AM 2, .inl (cY 0, 22, .inl sA)), (AM 3, .inl (cY 0, 22, .inl rd)), (AM 4, .inl (cY 0, 110, .inl kp)), (AM 5, .inl (cY 0, 8414, .inl td)), (AM 6, .inl (cY 0, 2, .inl wn)), (AM 13, .inl (cY 0, 4, .inl rw)), (AM 14, .inl (cY 0, 4, .inl br))] (va_A [(m0, .inr (8, mdL AM g)), (AM 0, .inl (cY 0, 72, .inl tb)), (AM 2, .inl (cY 0, 22, .inl sA)), (AM 3, .inl (cY 0, 22, .inl rd)), (AM 4, .inl (cY 0, 110, .inl kp)), (AM 5, .inl (cY 0, 8414, .inl td)), (AM 6, .inl (cY 0, 2, .inl wn)), (AM 13, .inl (cY 0, 4, .inl rw)), (AM 14, .inl (cY 0, 4, .inl br))] sz)) (va_A [(m0, .inr (8, mdL AM g)), (AM 0, .inl (cY 0, 72, .inl tb)), (AM 2, .inl (cY 0, 22, .inl sA)), (AM 3, .inl (cY 0, 22, .inl rd)), (AM 4, .inl (cY 0, 110, .inl kp)), (AM 5, .inl (cY 0, 8414, .inl td)), (AM 6, .inl (cY 0, 2, .inl wn)), (AM 13, .inl (cY 0, 4, .inl rw)), (AM 14, .inl (cY 0, 4, .inl br))] sz)) 0 0 (va_A [(m0, .inr (8, mdL AM g)), (AM 0, .inl (cY 0, 72, .inl tb)), (AM 2, .inl (cY 0, 22, .inl sA)), (AM 3, .inl (cY 0, 22, .inl rd)), (AM 4, .inl (cY 0, 110, .inl kp)), (AM 5, .inl (cY 0, 8414, .inl td)), (AM 6, .inl (cY 0, 2, .inl wn)), (AM 13, .inl (cY 0, 4, .inl rw)), (AM 14, .inl (cY 0, 4, .inl br))] sz) := by
  refine Met.ofW (cc := cX8_patch) (maxL := 5) (ret := (some .int)) (by decide) rfl ?_
  intro p e s m args below meth c s₁ B hml hv
  obtain ⟨rfl, hsz, hP, hK, hN, hD0⟩ := hv
  have hx := B.exec
  have hb := B.bytes
  have hr := B.returns
  have hts := atoms_spec (ws := wsX8_patch) B.pre
  have hown : s.vm.findClass RX8 = some m.cls := findClass_of_methodNamed B.named
  have hlocks := B.notSynchronized
  subst hsz
  have hD := hD0.self (sz := s.heap.size)
  generalize hAe : va_A [(m0, .inr (8, mdL AM g)), (AM 0, .inl (cY 0, 72, .inl tb)), (AM 2, .inl (cY 0, 22, .inl sA)), (AM 3, .inl (cY 0, 22, .inl rd)), (AM 4, .inl (cY 0, 110, .inl kp)), (AM 5, .inl (cY 0, 8414, .inl td)), (AM 6, .inl (cY 0, 2, .inl wn)), (AM 13, .inl (cY 0, 4, .inl rw)), (AM 14, .inl (cY 0, 4, .inl br))] s.heap.size = A at hD ⊢
  have hA : ∀ q : Nat, s.heap.size ≤ q → A q := fun q h => by rw [← hAe]; exact Or.inr h
  have hS : va_S A s.heap s.heap [] := va_S.rf
  have hP : va_P (dC, dI) vwCl [(m0, .inr (8, mdL AM g)), (AM 0, .inl (cY 0, 72, .inl tb)), (AM 2, .inl (cY 0, 22, .inl sA)), (AM 3, .inl (cY 0, 22, .inl rd)), (AM 4, .inl (cY 0, 110, .inl kp)), (AM 5, .inl (cY 0, 8414, .inl td)), (AM 6, .inl (cY 0, 2, .inl wn)), (AM 13, .inl (cY 0, 4, .inl rw)), (AM 14, .inl (cY 0, 4, .inl br))] s.heap := hP
  have hl := lv_entry ([.ref m0, .int move, .int what, .int value]) (n := 5) (Nat.le_of_ble_eq_true rfl)
  rw [lg_entry_eq]
  generalize (lg_sl ([.ref m0, .int move, .int what, .int value]) ++ List.replicate (5 - (lg_sl ([.ref m0, .int move, .int what, .int value])).length) Slot.unset).toArray = ls at hl ⊢
  have hl : lv_has ls 5 [(0, .ref m0), (1, .int move), (2, .int what), (3, .int value)] := hl
  refine lv_aload_n hx hb dX8_patch_0 rfl (lv_at hl 0 rfl) ?_
  refine lv_aload_n hx hb dX8_patch_1 rfl (lv_at hl 0 rfl) ?_
  refine lv_iload_n hx hb dX8_patch_2 rfl (lv_at hl 1 rfl) ?_
  refine vp_callSi (W.runV (As := [.int move]) (rest := [.ref m0]) ⟨hx, hb, hml, hown, hts⟩ (c_X8_isMove l dC dI cY m0 AM g tb sA rd kp td wn rw br move) (cwV 1 hts gX8_patch_X8_isMove rfl rfl rfl (by decide +kernel) ⟨Nat.le_of_ble_eq_true rfl, Nat.le_of_ble_eq_true rfl⟩) ⟨blindR, va_recv hK hP (ci := 8) (q0 := 0) rfl rfl, fun U hU hW => ⟨rfl, rPre_of hP hK hN U hU hW⟩⟩ rfl rfl hl.1 rfl (lv_room (Nat.le_of_ble_eq_true rfl)) dX8_patch_3 ⟨Nat.zero_le _, Nat.zero_le _⟩) (fun r_1 hw => ?_)
  obtain ⟨hw, hb_2⟩ := hw
  subst hw
  refine lv_if_ne (tgt := 13) hx hb dX8_patch_6 (by decide) (fun c_3 => ?_) (fun c_3 => ?_)
  · refine lv_iload_n hx hb dX8_patch_13 rfl (lv_at hl 2 rfl) ?_
    refine lv_iconst (v := 0) hx hb dX8_patch_14 (by decide) ?_
    refine lv_iconst (v := 4) hx hb dX8_patch_15 (by decide) ?_
    have hPc := hP.sub (ws' := []) [] rfl
    refine vp_callSi (W.runS (As := [.int what, .int 0, .int 4]) (rest := [.ref m0]) ⟨hx, hb, hml, hown, hts⟩ (c_X8_in l dC dI cY what 0 4) (va_cwS 3 hts gX8_patch_X8_in rfl rfl rfl (by decide +kernel) ⟨Nat.le_of_ble_eq_true rfl, Nat.le_of_ble_eq_true rfl⟩) ⟨blindR, fun U hU hW => ⟨rfl, rPre_of hPc hK hN U hU hW⟩⟩ rfl rfl hl.1 rfl (lv_room (Nat.le_of_ble_eq_true rfl)) dX8_patch_16 ⟨Nat.zero_le _, Nat.zero_le _⟩) (fun r_4 hw => ?_)
    obtain ⟨hw, hb_5⟩ := hw
    subst hw
    refine lv_if_eq (tgt := 32) hx hb dX8_patch_19 (by decide) (fun c_6 => ?_) (fun c_6 => ?_)
    · refine lv_iconst (v := 2) hx hb dX8_patch_32 (by decide) ?_
      refine lv_goto (tgt := 48) hx hb dX8_patch_33 (by decide) ?_
      have hPc := hP.sub (ws' := [(m0, .inr (8, mdL AM g)), (AM 0, .inl (cY 0, 72, .inl tb)), (AM 2, .inl (cY 0, 22, .inl sA)), (AM 3, .inl (cY 0, 22, .inl rd)), (AM 4, .inl (cY 0, 110, .inl kp)), (AM 5, .inl (cY 0, 8414, .inl td)), (AM 6, .inl (cY 0, 2, .inl wn)), (AM 13, .inl (cY 0, 4, .inl rw)), (AM 14, .inl (cY 0, 4, .inl br))]) [0, 1, 2, 3, 4, 5, 6, 7, 8] rfl
      have hDc := hD.sub (ws' := [(m0, .inr (8, mdL AM g)), (AM 0, .inl (cY 0, 72, .inl tb)), (AM 2, .inl (cY 0, 22, .inl sA)), (AM 3, .inl (cY 0, 22, .inl rd)), (AM 4, .inl (cY 0, 110, .inl kp)), (AM 5, .inl (cY 0, 8414, .inl td)), (AM 6, .inl (cY 0, 2, .inl wn)), (AM 13, .inl (cY 0, 4, .inl rw)), (AM 14, .inl (cY 0, 4, .inl br))]) [0, 1, 2, 3, 4, 5, 6, 7, 8] (by decide) rfl
      have hFc := va_free (wc := [(m0, .inr (8, mdL AM g)), (AM 0, .inl (cY 0, 72, .inl tb)), (AM 2, .inl (cY 0, 22, .inl sA)), (AM 3, .inl (cY 0, 22, .inl rd)), (AM 4, .inl (cY 0, 110, .inl kp)), (AM 5, .inl (cY 0, 8414, .inl td)), (AM 6, .inl (cY 0, 2, .inl wn)), (AM 13, .inl (cY 0, 4, .inl rw)), (AM 14, .inl (cY 0, 4, .inl br))]) hD hS hA [0, 1, 2, 3, 4, 5, 6, 7, 8] rfl
      refine va_calli (va_runV (As := [.int 2]) (rest := []) ⟨hx, hb, hml, hown, hts⟩ (c_X8_isFine l dC dI cY m0 AM g tb sA rd kp td wn rw br 2 s.heap.size) (cwV 1 hts gX8_patch_X8_isFine rfl rfl rfl (by decide +kernel) ⟨Nat.le_of_ble_eq_true rfl, Nat.le_of_ble_eq_true rfl⟩) ⟨blindW, va_recv hK hPc (ci := 8) (q0 := 0) rfl rfl, fun U hU hW => ⟨rfl, wPre_of hPc hK hN hDc U hU hW⟩⟩ rfl rfl hl.1 rfl (lv_room (Nat.le_of_ble_eq_true rfl)) dX8_patch_48 ⟨Nat.zero_le _, Nat.zero_le _⟩) hS (fun q _ h => hFc q h) hFc (fun r_7 u t H1 locs ht hvm hw hB hz1 hk1 hS1 => ?_)
      obtain ⟨hw, hb_8⟩ := hw
      subst hw
      refine lv_topi (fun x_9 ex_9 => ?_)
      obtain rfl : x_9 = 0 := ex_9.trans (by decide)
      have hJ := wJoin (wr := []) (w1 := [(m0, .inr (8, mdL AM (upd g 12 2))), (AM 0, .inl (cY 0, 72, .inl tb)), (AM 2, .inl (cY 0, 22, .inl sA)), (AM 3, .inl (cY 0, 22, .inl rd)), (AM 4, .inl (cY 0, 110, .inl kp)), (AM 5, .inl (cY 0, 8414, .inl td)), (AM 6, .inl (cY 0, 2, .inl wn)), (AM 13, .inl (cY 0, 4, .inl rw)), (AM 14, .inl (cY 0, 4, .inl br))]) (wn := [(m0, .inr (8, mdL AM (upd g 12 2))), (AM 0, .inl (cY 0, 72, .inl tb)), (AM 2, .inl (cY 0, 22, .inl sA)), (AM 3, .inl (cY 0, 22, .inl rd)), (AM 4, .inl (cY 0, 110, .inl kp)), (AM 5, .inl (cY 0, 8414, .inl td)), (AM 6, .inl (cY 0, 2, .inl wn)), (AM 13, .inl (cY 0, 4, .inl rw)), (AM 14, .inl (cY 0, 4, .inl br))]) hP hD [0, 1, 2, 3, 4, 5, 6, 7, 8] [] rfl rfl (by decide) (by decide) hk1 hFc hB ht [0, 1, 2, 3, 4, 5, 6, 7, 8] rfl (by decide)
      clear hB hk1 hFc hPc hDc hP hD hS hz1 hvm ht t
      obtain ⟨hP1, hD1⟩ := hJ
      generalize H1 = H at hP1 hS1 ⊢
      have hP : va_P (dC, dI) vwCl [(m0, .inr (8, mdL AM (upd g 12 2))), (AM 0, .inl (cY 0, 72, .inl tb)), (AM 2, .inl (cY 0, 22, .inl sA)), (AM 3, .inl (cY 0, 22, .inl rd)), (AM 4, .inl (cY 0, 110, .inl kp)), (AM 5, .inl (cY 0, 8414, .inl td)), (AM 6, .inl (cY 0, 2, .inl wn)), (AM 13, .inl (cY 0, 4, .inl rw)), (AM 14, .inl (cY 0, 4, .inl br))] H := hP1
      have hD : va_D A [(m0, .inr (8, mdL AM (upd g 12 2))), (AM 0, .inl (cY 0, 72, .inl tb)), (AM 2, .inl (cY 0, 22, .inl sA)), (AM 3, .inl (cY 0, 22, .inl rd)), (AM 4, .inl (cY 0, 110, .inl kp)), (AM 5, .inl (cY 0, 8414, .inl td)), (AM 6, .inl (cY 0, 2, .inl wn)), (AM 13, .inl (cY 0, 4, .inl rw)), (AM 14, .inl (cY 0, 4, .inl br))] := hD1
      have hS := hS1
      clear hP1 hD1 hS1
      refine lv_if_ne (tgt := 56) hx hb dX8_patch_51 (by decide) (fun c_10 => ?_) (fun c_10 => ?_)
      · exact absurd (by decide) c_10
      refine lv_iconst (v := 0) hx hb dX8_patch_54 (by decide) ?_
      have eo_11 : (X8_patch_r g tb move value what) = 0 := by rw [X8_patch_r]; simp only [eq_false c_3, eq_true c_6, ↓reduceIte]
      have eo_12 : (X8_patch_w0 g move value what) = (upd g 12 2) := by rw [X8_patch_w0]; simp only [eq_false c_3, eq_true c_6, ↓reduceIte]
      have eo_13 : (X8_patch_w1 g tb move value what) = tb := by rw [X8_patch_w1]; simp only [eq_false c_3, eq_true c_6, ↓reduceIte]
      have hP9 : va_P (dC, dI) vwCl [(m0, .inr (8, mdL AM (X8_patch_w0 g move value what))), (AM 0, .inl (cY 0, 72, .inl (X8_patch_w1 g tb move value what))), (AM 2, .inl (cY 0, 22, .inl sA)), (AM 3, .inl (cY 0, 22, .inl rd)), (AM 4, .inl (cY 0, 110, .inl kp)), (AM 5, .inl (cY 0, 8414, .inl td)), (AM 6, .inl (cY 0, 2, .inl wn)), (AM 13, .inl (cY 0, 4, .inl rw)), (AM 14, .inl (cY 0, 4, .inl br))] H := by simp only [eo_12, eo_13]; exact hP
      have hD9 : va_D A [(m0, .inr (8, mdL AM (X8_patch_w0 g move value what))), (AM 0, .inl (cY 0, 72, .inl (X8_patch_w1 g tb move value what))), (AM 2, .inl (cY 0, 22, .inl sA)), (AM 3, .inl (cY 0, 22, .inl rd)), (AM 4, .inl (cY 0, 110, .inl kp)), (AM 5, .inl (cY 0, 8414, .inl td)), (AM 6, .inl (cY 0, 2, .inl wn)), (AM 13, .inl (cY 0, 4, .inl rw)), (AM 14, .inl (cY 0, 4, .inl br))] := by simp only [eo_12, eo_13]; exact hD
      exact W.iret (v := 0) hx hb hr (fun t ht hW => ⟨⟨_, (), rfl, eo_11.symm, wPost_of hP9 hD9 ht⟩, hS.F ht⟩) hS.2.2 dX8_patch_55
    · refine lv_iload_n hx hb dX8_patch_22 rfl (lv_at hl 3 rfl) ?_
      refine lv_iconst (v := 0) hx hb dX8_patch_23 (by decide) ?_
      refine lv_bipush (v := 60) hx hb dX8_patch_24 (by decide) ?_
      have hPc := hP.sub (ws' := []) [] rfl
      refine vp_callSi (W.runS (As := [.int value, .int 0, .int 60]) (rest := [.ref m0]) ⟨hx, hb, hml, hown, hts⟩ (c_X8_in l dC dI cY value 0 60) (va_cwS 3 hts gX8_patch_X8_in rfl rfl rfl (by decide +kernel) ⟨Nat.le_of_ble_eq_true rfl, Nat.le_of_ble_eq_true rfl⟩) ⟨blindR, fun U hU hW => ⟨rfl, rPre_of hPc hK hN U hU hW⟩⟩ rfl rfl hl.1 rfl (lv_room (Nat.le_of_ble_eq_true rfl)) dX8_patch_26 ⟨Nat.zero_le _, Nat.zero_le _⟩) (fun r_14 hw => ?_)
      obtain ⟨hw, hb_15⟩ := hw
      subst hw
      refine lv_if_ne (tgt := 36) hx hb dX8_patch_29 (by decide) (fun c_16 => ?_) (fun c_16 => ?_)
      · refine lv_aload_n hx hb dX8_patch_36 rfl (lv_at hl 0 rfl) ?_
        refine va_get (D := (dC, dI)) (ci := 8) (v := .int (g 9)) (C := RX8) (T := TX8) (N := 17) hx hb hts inw_X8_patch_X8 hown hK hP 0 rfl rfl 9 (by decide) (hts (.fieldLink RX8 51 "DuelFramesModel" "goesOn" "Z") (List.mem_of_getElem? (i := 1) rfl)) (fun _ h9 => h9) rfl dX8_patch_37 ?_
        refine lv_if_eq (tgt := 47) hx hb dX8_patch_40 (by decide) (fun c_17 => ?_) (fun c_17 => ?_)
        · refine lv_iconst (v := 0) hx hb dX8_patch_47 (by decide) ?_
          have hPc := hP.sub (ws' := [(m0, .inr (8, mdL AM g)), (AM 0, .inl (cY 0, 72, .inl tb)), (AM 2, .inl (cY 0, 22, .inl sA)), (AM 3, .inl (cY 0, 22, .inl rd)), (AM 4, .inl (cY 0, 110, .inl kp)), (AM 5, .inl (cY 0, 8414, .inl td)), (AM 6, .inl (cY 0, 2, .inl wn)), (AM 13, .inl (cY 0, 4, .inl rw)), (AM 14, .inl (cY 0, 4, .inl br))]) [0, 1, 2, 3, 4, 5, 6, 7, 8] rfl
          have hDc := hD.sub (ws' := [(m0, .inr (8, mdL AM g)), (AM 0, .inl (cY 0, 72, .inl tb)), (AM 2, .inl (cY 0, 22, .inl sA)), (AM 3, .inl (cY 0, 22, .inl rd)), (AM 4, .inl (cY 0, 110, .inl kp)), (AM 5, .inl (cY 0, 8414, .inl td)), (AM 6, .inl (cY 0, 2, .inl wn)), (AM 13, .inl (cY 0, 4, .inl rw)), (AM 14, .inl (cY 0, 4, .inl br))]) [0, 1, 2, 3, 4, 5, 6, 7, 8] (by decide) rfl
          have hFc := va_free (wc := [(m0, .inr (8, mdL AM g)), (AM 0, .inl (cY 0, 72, .inl tb)), (AM 2, .inl (cY 0, 22, .inl sA)), (AM 3, .inl (cY 0, 22, .inl rd)), (AM 4, .inl (cY 0, 110, .inl kp)), (AM 5, .inl (cY 0, 8414, .inl td)), (AM 6, .inl (cY 0, 2, .inl wn)), (AM 13, .inl (cY 0, 4, .inl rw)), (AM 14, .inl (cY 0, 4, .inl br))]) hD hS hA [0, 1, 2, 3, 4, 5, 6, 7, 8] rfl
          refine va_calli (va_runV (As := [.int 0]) (rest := []) ⟨hx, hb, hml, hown, hts⟩ (c_X8_isFine l dC dI cY m0 AM g tb sA rd kp td wn rw br 0 s.heap.size) (cwV 1 hts gX8_patch_X8_isFine rfl rfl rfl (by decide +kernel) ⟨Nat.le_of_ble_eq_true rfl, Nat.le_of_ble_eq_true rfl⟩) ⟨blindW, va_recv hK hPc (ci := 8) (q0 := 0) rfl rfl, fun U hU hW => ⟨rfl, wPre_of hPc hK hN hDc U hU hW⟩⟩ rfl rfl hl.1 rfl (lv_room (Nat.le_of_ble_eq_true rfl)) dX8_patch_48 ⟨Nat.zero_le _, Nat.zero_le _⟩) hS (fun q _ h => hFc q h) hFc (fun r_18 u t H1 locs ht hvm hw hB hz1 hk1 hS1 => ?_)
          obtain ⟨hw, hb_19⟩ := hw
          subst hw
          refine lv_topi (fun x_20 ex_20 => ?_)
          obtain rfl : x_20 = 1 := ex_20.trans (by decide)
          have hJ := wJoin (wr := []) (w1 := [(m0, .inr (8, mdL AM (upd g 12 0))), (AM 0, .inl (cY 0, 72, .inl tb)), (AM 2, .inl (cY 0, 22, .inl sA)), (AM 3, .inl (cY 0, 22, .inl rd)), (AM 4, .inl (cY 0, 110, .inl kp)), (AM 5, .inl (cY 0, 8414, .inl td)), (AM 6, .inl (cY 0, 2, .inl wn)), (AM 13, .inl (cY 0, 4, .inl rw)), (AM 14, .inl (cY 0, 4, .inl br))]) (wn := [(m0, .inr (8, mdL AM (upd g 12 0))), (AM 0, .inl (cY 0, 72, .inl tb)), (AM 2, .inl (cY 0, 22, .inl sA)), (AM 3, .inl (cY 0, 22, .inl rd)), (AM 4, .inl (cY 0, 110, .inl kp)), (AM 5, .inl (cY 0, 8414, .inl td)), (AM 6, .inl (cY 0, 2, .inl wn)), (AM 13, .inl (cY 0, 4, .inl rw)), (AM 14, .inl (cY 0, 4, .inl br))]) hP hD [0, 1, 2, 3, 4, 5, 6, 7, 8] [] rfl rfl (by decide) (by decide) hk1 hFc hB ht [0, 1, 2, 3, 4, 5, 6, 7, 8] rfl (by decide)
          clear hB hk1 hFc hPc hDc hP hD hS hz1 hvm ht t
          obtain ⟨hP1, hD1⟩ := hJ
          generalize H1 = H at hP1 hS1 ⊢
          have hP : va_P (dC, dI) vwCl [(m0, .inr (8, mdL AM (upd g 12 0))), (AM 0, .inl (cY 0, 72, .inl tb)), (AM 2, .inl (cY 0, 22, .inl sA)), (AM 3, .inl (cY 0, 22, .inl rd)), (AM 4, .inl (cY 0, 110, .inl kp)), (AM 5, .inl (cY 0, 8414, .inl td)), (AM 6, .inl (cY 0, 2, .inl wn)), (AM 13, .inl (cY 0, 4, .inl rw)), (AM 14, .inl (cY 0, 4, .inl br))] H := hP1
          have hD : va_D A [(m0, .inr (8, mdL AM (upd g 12 0))), (AM 0, .inl (cY 0, 72, .inl tb)), (AM 2, .inl (cY 0, 22, .inl sA)), (AM 3, .inl (cY 0, 22, .inl rd)), (AM 4, .inl (cY 0, 110, .inl kp)), (AM 5, .inl (cY 0, 8414, .inl td)), (AM 6, .inl (cY 0, 2, .inl wn)), (AM 13, .inl (cY 0, 4, .inl rw)), (AM 14, .inl (cY 0, 4, .inl br))] := hD1
          have hS := hS1
          clear hP1 hD1 hS1
          refine lv_if_ne (tgt := 56) hx hb dX8_patch_51 (by decide) (fun c_21 => ?_) (fun c_21 => ?_)
          rotate_left
          · exact absurd c_21 (by decide)
          refine lv_aload_n hx hb dX8_patch_56 rfl (lv_at hl 0 rfl) ?_
          refine va_get (D := (dC, dI)) (ci := 8) (v := .ref (AM 0)) (C := RX8) (T := TX8) (N := 17) hx hb hts inw_X8_patch_X8 hown hK hP 0 rfl rfl 0 (by decide) (hts (.fieldLink RX8 7 "DuelFramesModel" "table" "[I") (List.mem_of_getElem? (i := 2) rfl)) (fun _ h9 => h9) rfl dX8_patch_57 ?_
          refine lv_bipush (v := 12) hx hb dX8_patch_60 (by decide) ?_
          refine lv_iload_n hx hb dX8_patch_62 rfl (lv_at hl 1 rfl) ?_
          refine lv_imul hx hb dX8_patch_63 ?_
          refine lv_bipush (v := 6) hx hb dX8_patch_64 (by decide) ?_
          refine lv_iadd hx hb dX8_patch_66 ?_
          refine lv_iload_n hx hb dX8_patch_67 rfl (lv_at hl 2 rfl) ?_
          refine lv_iadd hx hb dX8_patch_68 ?_
          refine va_iald hx hb hK hP 1 0 rfl rfl (tb_in3 (isMove_ok hmv c_3) (in_ok (n := 4) rfl c_6)) dX8_patch_69 ?_
          refine lv_topi (fun x_22 ex_22 => ?_)
          obtain rfl : x_22 = (tb (((12 * move) + 6) + what).toNatClampNeg) := ex_22
          refine lv_istore (lv' := [(4, .int (tb (((12 * move) + 6) + what).toNatClampNeg)), (0, .ref m0), (1, .int move), (2, .int what), (3, .int value)]) hx hb dX8_patch_70 hl (by decide) rfl (fun ls hl => ?_)
          refine lv_aload_n hx hb dX8_patch_72 rfl (lv_at hl 1 rfl) ?_
          refine va_get (D := (dC, dI)) (ci := 8) (v := .ref (AM 0)) (C := RX8) (T := TX8) (N := 17) hx hb hts inw_X8_patch_X8 hown hK hP 0 rfl rfl 0 (by decide) (hts (.fieldLink RX8 7 "DuelFramesModel" "table" "[I") (List.mem_of_getElem? (i := 2) rfl)) (fun _ h9 => h9) rfl dX8_patch_73 ?_
          refine lv_bipush (v := 12) hx hb dX8_patch_76 (by decide) ?_
          refine lv_iload_n hx hb dX8_patch_78 rfl (lv_at hl 2 rfl) ?_
          refine lv_imul hx hb dX8_patch_79 ?_
          refine lv_bipush (v := 6) hx hb dX8_patch_80 (by decide) ?_
          refine lv_iadd hx hb dX8_patch_82 ?_
          refine lv_iload_n hx hb dX8_patch_83 rfl (lv_at hl 3 rfl) ?_
          refine lv_iadd hx hb dX8_patch_84 ?_
          refine lv_iload_n hx hb dX8_patch_85 rfl (lv_at hl 4 rfl) ?_
          refine va_iast hx hb hK hP hD hS 1 0 rfl rfl (tb_in3 (isMove_ok hmv c_3) (in_ok (n := 4) rfl c_6)) dX8_patch_86 (fun H locs hP1 hD1 hS1 => ?_)
          clear hP hD hS
          have hP : va_P (dC, dI) vwCl [(m0, .inr (8, mdL AM (upd g 12 0))), (AM 0, .inl (cY 0, 72, .inl (upd tb (((12 * move) + 6) + what).toNatClampNeg value))), (AM 2, .inl (cY 0, 22, .inl sA)), (AM 3, .inl (cY 0, 22, .inl rd)), (AM 4, .inl (cY 0, 110, .inl kp)), (AM 5, .inl (cY 0, 8414, .inl td)), (AM 6, .inl (cY 0, 2, .inl wn)), (AM 13, .inl (cY 0, 4, .inl rw)), (AM 14, .inl (cY 0, 4, .inl br))] H := hP1
          have hD : va_D A [(m0, .inr (8, mdL AM (upd g 12 0))), (AM 0, .inl (cY 0, 72, .inl (upd tb (((12 * move) + 6) + what).toNatClampNeg value))), (AM 2, .inl (cY 0, 22, .inl sA)), (AM 3, .inl (cY 0, 22, .inl rd)), (AM 4, .inl (cY 0, 110, .inl kp)), (AM 5, .inl (cY 0, 8414, .inl td)), (AM 6, .inl (cY 0, 2, .inl wn)), (AM 13, .inl (cY 0, 4, .inl rw)), (AM 14, .inl (cY 0, 4, .inl br))] := hD1
          have hS := hS1
          clear hP1 hD1 hS1
          refine lv_iload hx hb dX8_patch_87 (lv_at hl 0 rfl) ?_
          have eo_23 : (X8_patch_r g tb move value what) = (tb (((12 * move) + 6) + what).toNatClampNeg) := by rw [X8_patch_r]; simp only [eq_false c_3, eq_false c_6, eq_false c_16, eq_true c_17, ↓reduceIte]
          have eo_24 : (X8_patch_w0 g move value what) = (upd g 12 0) := by rw [X8_patch_w0]; simp only [eq_false c_3, eq_false c_6, eq_false c_16, eq_true c_17, ↓reduceIte]
          have eo_25 : (X8_patch_w1 g tb move value what) = (upd tb (((12 * move) + 6) + what).toNatClampNeg value) := by rw [X8_patch_w1]; simp only [eq_false c_3, eq_false c_6, eq_false c_16, eq_true c_17, ↓reduceIte]
          have hP9 : va_P (dC, dI) vwCl [(m0, .inr (8, mdL AM (X8_patch_w0 g move value what))), (AM 0, .inl (cY 0, 72, .inl (X8_patch_w1 g tb move value what))), (AM 2, .inl (cY 0, 22, .inl sA)), (AM 3, .inl (cY 0, 22, .inl rd)), (AM 4, .inl (cY 0, 110, .inl kp)), (AM 5, .inl (cY 0, 8414, .inl td)), (AM 6, .inl (cY 0, 2, .inl wn)), (AM 13, .inl (cY 0, 4, .inl rw)), (AM 14, .inl (cY 0, 4, .inl br))] H := by simp only [eo_24, eo_25]; exact hP
          have hD9 : va_D A [(m0, .inr (8, mdL AM (X8_patch_w0 g move value what))), (AM 0, .inl (cY 0, 72, .inl (X8_patch_w1 g tb move value what))), (AM 2, .inl (cY 0, 22, .inl sA)), (AM 3, .inl (cY 0, 22, .inl rd)), (AM 4, .inl (cY 0, 110, .inl kp)), (AM 5, .inl (cY 0, 8414, .inl td)), (AM 6, .inl (cY 0, 2, .inl wn)), (AM 13, .inl (cY 0, 4, .inl rw)), (AM 14, .inl (cY 0, 4, .inl br))] := by simp only [eo_24, eo_25]; exact hD
          exact W.iret (v := (tb (((12 * move) + 6) + what).toNatClampNeg)) hx hb hr (fun t ht hW => ⟨⟨_, (), rfl, eo_23.symm, wPost_of hP9 hD9 ht⟩, hS.F ht⟩) hS.2.2 dX8_patch_89
        · refine lv_iconst (v := 3) hx hb dX8_patch_43 (by decide) ?_
          refine lv_goto (tgt := 48) hx hb dX8_patch_44 (by decide) ?_
          have hPc := hP.sub (ws' := [(m0, .inr (8, mdL AM g)), (AM 0, .inl (cY 0, 72, .inl tb)), (AM 2, .inl (cY 0, 22, .inl sA)), (AM 3, .inl (cY 0, 22, .inl rd)), (AM 4, .inl (cY 0, 110, .inl kp)), (AM 5, .inl (cY 0, 8414, .inl td)), (AM 6, .inl (cY 0, 2, .inl wn)), (AM 13, .inl (cY 0, 4, .inl rw)), (AM 14, .inl (cY 0, 4, .inl br))]) [0, 1, 2, 3, 4, 5, 6, 7, 8] rfl
          have hDc := hD.sub (ws' := [(m0, .inr (8, mdL AM g)), (AM 0, .inl (cY 0, 72, .inl tb)), (AM 2, .inl (cY 0, 22, .inl sA)), (AM 3, .inl (cY 0, 22, .inl rd)), (AM 4, .inl (cY 0, 110, .inl kp)), (AM 5, .inl (cY 0, 8414, .inl td)), (AM 6, .inl (cY 0, 2, .inl wn)), (AM 13, .inl (cY 0, 4, .inl rw)), (AM 14, .inl (cY 0, 4, .inl br))]) [0, 1, 2, 3, 4, 5, 6, 7, 8] (by decide) rfl
          have hFc := va_free (wc := [(m0, .inr (8, mdL AM g)), (AM 0, .inl (cY 0, 72, .inl tb)), (AM 2, .inl (cY 0, 22, .inl sA)), (AM 3, .inl (cY 0, 22, .inl rd)), (AM 4, .inl (cY 0, 110, .inl kp)), (AM 5, .inl (cY 0, 8414, .inl td)), (AM 6, .inl (cY 0, 2, .inl wn)), (AM 13, .inl (cY 0, 4, .inl rw)), (AM 14, .inl (cY 0, 4, .inl br))]) hD hS hA [0, 1, 2, 3, 4, 5, 6, 7, 8] rfl
          refine va_calli (va_runV (As := [.int 3]) (rest := []) ⟨hx, hb, hml, hown, hts⟩ (c_X8_isFine l dC dI cY m0 AM g tb sA rd kp td wn rw br 3 s.heap.size) (cwV 1 hts gX8_patch_X8_isFine rfl rfl rfl (by decide +kernel) ⟨Nat.le_of_ble_eq_true rfl, Nat.le_of_ble_eq_true rfl⟩) ⟨blindW, va_recv hK hPc (ci := 8) (q0 := 0) rfl rfl, fun U hU hW => ⟨rfl, wPre_of hPc hK hN hDc U hU hW⟩⟩ rfl rfl hl.1 rfl (lv_room (Nat.le_of_ble_eq_true rfl)) dX8_patch_48 ⟨Nat.zero_le _, Nat.zero_le _⟩) hS (fun q _ h => hFc q h) hFc (fun r_26 u t H1 locs ht hvm hw hB hz1 hk1 hS1 => ?_)
          obtain ⟨hw, hb_27⟩ := hw
          subst hw
          refine lv_topi (fun x_28 ex_28 => ?_)
          obtain rfl : x_28 = 0 := ex_28.trans (by decide)
          have hJ := wJoin (wr := []) (w1 := [(m0, .inr (8, mdL AM (upd g 12 3))), (AM 0, .inl (cY 0, 72, .inl tb)), (AM 2, .inl (cY 0, 22, .inl sA)), (AM 3, .inl (cY 0, 22, .inl rd)), (AM 4, .inl (cY 0, 110, .inl kp)), (AM 5, .inl (cY 0, 8414, .inl td)), (AM 6, .inl (cY 0, 2, .inl wn)), (AM 13, .inl (cY 0, 4, .inl rw)), (AM 14, .inl (cY 0, 4, .inl br))]) (wn := [(m0, .inr (8, mdL AM (upd g 12 3))), (AM 0, .inl (cY 0, 72, .inl tb)), (AM 2, .inl (cY 0, 22, .inl sA)), (AM 3, .inl (cY 0, 22, .inl rd)), (AM 4, .inl (cY 0, 110, .inl kp)), (AM 5, .inl (cY 0, 8414, .inl td)), (AM 6, .inl (cY 0, 2, .inl wn)), (AM 13, .inl (cY 0, 4, .inl rw)), (AM 14, .inl (cY 0, 4, .inl br))]) hP hD [0, 1, 2, 3, 4, 5, 6, 7, 8] [] rfl rfl (by decide) (by decide) hk1 hFc hB ht [0, 1, 2, 3, 4, 5, 6, 7, 8] rfl (by decide)
          clear hB hk1 hFc hPc hDc hP hD hS hz1 hvm ht t
          obtain ⟨hP1, hD1⟩ := hJ
          generalize H1 = H at hP1 hS1 ⊢
          have hP : va_P (dC, dI) vwCl [(m0, .inr (8, mdL AM (upd g 12 3))), (AM 0, .inl (cY 0, 72, .inl tb)), (AM 2, .inl (cY 0, 22, .inl sA)), (AM 3, .inl (cY 0, 22, .inl rd)), (AM 4, .inl (cY 0, 110, .inl kp)), (AM 5, .inl (cY 0, 8414, .inl td)), (AM 6, .inl (cY 0, 2, .inl wn)), (AM 13, .inl (cY 0, 4, .inl rw)), (AM 14, .inl (cY 0, 4, .inl br))] H := hP1
          have hD : va_D A [(m0, .inr (8, mdL AM (upd g 12 3))), (AM 0, .inl (cY 0, 72, .inl tb)), (AM 2, .inl (cY 0, 22, .inl sA)), (AM 3, .inl (cY 0, 22, .inl rd)), (AM 4, .inl (cY 0, 110, .inl kp)), (AM 5, .inl (cY 0, 8414, .inl td)), (AM 6, .inl (cY 0, 2, .inl wn)), (AM 13, .inl (cY 0, 4, .inl rw)), (AM 14, .inl (cY 0, 4, .inl br))] := hD1
          have hS := hS1
          clear hP1 hD1 hS1
          refine lv_if_ne (tgt := 56) hx hb dX8_patch_51 (by decide) (fun c_29 => ?_) (fun c_29 => ?_)
          · exact absurd (by decide) c_29
          refine lv_iconst (v := 0) hx hb dX8_patch_54 (by decide) ?_
          have eo_30 : (X8_patch_r g tb move value what) = 0 := by rw [X8_patch_r]; simp only [eq_false c_3, eq_false c_6, eq_false c_16, eq_false c_17, ↓reduceIte]
          have eo_31 : (X8_patch_w0 g move value what) = (upd g 12 3) := by rw [X8_patch_w0]; simp only [eq_false c_3, eq_false c_6, eq_false c_16, eq_false c_17, ↓reduceIte]
          have eo_32 : (X8_patch_w1 g tb move value what) = tb := by rw [X8_patch_w1]; simp only [eq_false c_3, eq_false c_6, eq_false c_16, eq_false c_17, ↓reduceIte]
          have hP9 : va_P (dC, dI) vwCl [(m0, .inr (8, mdL AM (X8_patch_w0 g move value what))), (AM 0, .inl (cY 0, 72, .inl (X8_patch_w1 g tb move value what))), (AM 2, .inl (cY 0, 22, .inl sA)), (AM 3, .inl (cY 0, 22, .inl rd)), (AM 4, .inl (cY 0, 110, .inl kp)), (AM 5, .inl (cY 0, 8414, .inl td)), (AM 6, .inl (cY 0, 2, .inl wn)), (AM 13, .inl (cY 0, 4, .inl rw)), (AM 14, .inl (cY 0, 4, .inl br))] H := by simp only [eo_31, eo_32]; exact hP
          have hD9 : va_D A [(m0, .inr (8, mdL AM (X8_patch_w0 g move value what))), (AM 0, .inl (cY 0, 72, .inl (X8_patch_w1 g tb move value what))), (AM 2, .inl (cY 0, 22, .inl sA)), (AM 3, .inl (cY 0, 22, .inl rd)), (AM 4, .inl (cY 0, 110, .inl kp)), (AM 5, .inl (cY 0, 8414, .inl td)), (AM 6, .inl (cY 0, 2, .inl wn)), (AM 13, .inl (cY 0, 4, .inl rw)), (AM 14, .inl (cY 0, 4, .inl br))] := by simp only [eo_31, eo_32]; exact hD
          exact W.iret (v := 0) hx hb hr (fun t ht hW => ⟨⟨_, (), rfl, eo_30.symm, wPost_of hP9 hD9 ht⟩, hS.F ht⟩) hS.2.2 dX8_patch_55
      · refine lv_iconst (v := 2) hx hb dX8_patch_32 (by decide) ?_
        refine lv_goto (tgt := 48) hx hb dX8_patch_33 (by decide) ?_
        have hPc := hP.sub (ws' := [(m0, .inr (8, mdL AM g)), (AM 0, .inl (cY 0, 72, .inl tb)), (AM 2, .inl (cY 0, 22, .inl sA)), (AM 3, .inl (cY 0, 22, .inl rd)), (AM 4, .inl (cY 0, 110, .inl kp)), (AM 5, .inl (cY 0, 8414, .inl td)), (AM 6, .inl (cY 0, 2, .inl wn)), (AM 13, .inl (cY 0, 4, .inl rw)), (AM 14, .inl (cY 0, 4, .inl br))]) [0, 1, 2, 3, 4, 5, 6, 7, 8] rfl
        have hDc := hD.sub (ws' := [(m0, .inr (8, mdL AM g)), (AM 0, .inl (cY 0, 72, .inl tb)), (AM 2, .inl (cY 0, 22, .inl sA)), (AM 3, .inl (cY 0, 22, .inl rd)), (AM 4, .inl (cY 0, 110, .inl kp)), (AM 5, .inl (cY 0, 8414, .inl td)), (AM 6, .inl (cY 0, 2, .inl wn)), (AM 13, .inl (cY 0, 4, .inl rw)), (AM 14, .inl (cY 0, 4, .inl br))]) [0, 1, 2, 3, 4, 5, 6, 7, 8] (by decide) rfl
        have hFc := va_free (wc := [(m0, .inr (8, mdL AM g)), (AM 0, .inl (cY 0, 72, .inl tb)), (AM 2, .inl (cY 0, 22, .inl sA)), (AM 3, .inl (cY 0, 22, .inl rd)), (AM 4, .inl (cY 0, 110, .inl kp)), (AM 5, .inl (cY 0, 8414, .inl td)), (AM 6, .inl (cY 0, 2, .inl wn)), (AM 13, .inl (cY 0, 4, .inl rw)), (AM 14, .inl (cY 0, 4, .inl br))]) hD hS hA [0, 1, 2, 3, 4, 5, 6, 7, 8] rfl
        refine va_calli (va_runV (As := [.int 2]) (rest := []) ⟨hx, hb, hml, hown, hts⟩ (c_X8_isFine l dC dI cY m0 AM g tb sA rd kp td wn rw br 2 s.heap.size) (cwV 1 hts gX8_patch_X8_isFine rfl rfl rfl (by decide +kernel) ⟨Nat.le_of_ble_eq_true rfl, Nat.le_of_ble_eq_true rfl⟩) ⟨blindW, va_recv hK hPc (ci := 8) (q0 := 0) rfl rfl, fun U hU hW => ⟨rfl, wPre_of hPc hK hN hDc U hU hW⟩⟩ rfl rfl hl.1 rfl (lv_room (Nat.le_of_ble_eq_true rfl)) dX8_patch_48 ⟨Nat.zero_le _, Nat.zero_le _⟩) hS (fun q _ h => hFc q h) hFc (fun r_33 u t H1 locs ht hvm hw hB hz1 hk1 hS1 => ?_)
        obtain ⟨hw, hb_34⟩ := hw
        subst hw
        refine lv_topi (fun x_35 ex_35 => ?_)
        obtain rfl : x_35 = 0 := ex_35.trans (by decide)
        have hJ := wJoin (wr := []) (w1 := [(m0, .inr (8, mdL AM (upd g 12 2))), (AM 0, .inl (cY 0, 72, .inl tb)), (AM 2, .inl (cY 0, 22, .inl sA)), (AM 3, .inl (cY 0, 22, .inl rd)), (AM 4, .inl (cY 0, 110, .inl kp)), (AM 5, .inl (cY 0, 8414, .inl td)), (AM 6, .inl (cY 0, 2, .inl wn)), (AM 13, .inl (cY 0, 4, .inl rw)), (AM 14, .inl (cY 0, 4, .inl br))]) (wn := [(m0, .inr (8, mdL AM (upd g 12 2))), (AM 0, .inl (cY 0, 72, .inl tb)), (AM 2, .inl (cY 0, 22, .inl sA)), (AM 3, .inl (cY 0, 22, .inl rd)), (AM 4, .inl (cY 0, 110, .inl kp)), (AM 5, .inl (cY 0, 8414, .inl td)), (AM 6, .inl (cY 0, 2, .inl wn)), (AM 13, .inl (cY 0, 4, .inl rw)), (AM 14, .inl (cY 0, 4, .inl br))]) hP hD [0, 1, 2, 3, 4, 5, 6, 7, 8] [] rfl rfl (by decide) (by decide) hk1 hFc hB ht [0, 1, 2, 3, 4, 5, 6, 7, 8] rfl (by decide)
        clear hB hk1 hFc hPc hDc hP hD hS hz1 hvm ht t
        obtain ⟨hP1, hD1⟩ := hJ
        generalize H1 = H at hP1 hS1 ⊢
        have hP : va_P (dC, dI) vwCl [(m0, .inr (8, mdL AM (upd g 12 2))), (AM 0, .inl (cY 0, 72, .inl tb)), (AM 2, .inl (cY 0, 22, .inl sA)), (AM 3, .inl (cY 0, 22, .inl rd)), (AM 4, .inl (cY 0, 110, .inl kp)), (AM 5, .inl (cY 0, 8414, .inl td)), (AM 6, .inl (cY 0, 2, .inl wn)), (AM 13, .inl (cY 0, 4, .inl rw)), (AM 14, .inl (cY 0, 4, .inl br))] H := hP1
        have hD : va_D A [(m0, .inr (8, mdL AM (upd g 12 2))), (AM 0, .inl (cY 0, 72, .inl tb)), (AM 2, .inl (cY 0, 22, .inl sA)), (AM 3, .inl (cY 0, 22, .inl rd)), (AM 4, .inl (cY 0, 110, .inl kp)), (AM 5, .inl (cY 0, 8414, .inl td)), (AM 6, .inl (cY 0, 2, .inl wn)), (AM 13, .inl (cY 0, 4, .inl rw)), (AM 14, .inl (cY 0, 4, .inl br))] := hD1
        have hS := hS1
        clear hP1 hD1 hS1
        refine lv_if_ne (tgt := 56) hx hb dX8_patch_51 (by decide) (fun c_36 => ?_) (fun c_36 => ?_)
        · exact absurd (by decide) c_36
        refine lv_iconst (v := 0) hx hb dX8_patch_54 (by decide) ?_
        have eo_37 : (X8_patch_r g tb move value what) = 0 := by rw [X8_patch_r]; simp only [eq_false c_3, eq_false c_6, eq_true c_16, ↓reduceIte]
        have eo_38 : (X8_patch_w0 g move value what) = (upd g 12 2) := by rw [X8_patch_w0]; simp only [eq_false c_3, eq_false c_6, eq_true c_16, ↓reduceIte]
        have eo_39 : (X8_patch_w1 g tb move value what) = tb := by rw [X8_patch_w1]; simp only [eq_false c_3, eq_false c_6, eq_true c_16, ↓reduceIte]
        have hP9 : va_P (dC, dI) vwCl [(m0, .inr (8, mdL AM (X8_patch_w0 g move value what))), (AM 0, .inl (cY 0, 72, .inl (X8_patch_w1 g tb move value what))), (AM 2, .inl (cY 0, 22, .inl sA)), (AM 3, .inl (cY 0, 22, .inl rd)), (AM 4, .inl (cY 0, 110, .inl kp)), (AM 5, .inl (cY 0, 8414, .inl td)), (AM 6, .inl (cY 0, 2, .inl wn)), (AM 13, .inl (cY 0, 4, .inl rw)), (AM 14, .inl (cY 0, 4, .inl br))] H := by simp only [eo_38, eo_39]; exact hP
        have hD9 : va_D A [(m0, .inr (8, mdL AM (X8_patch_w0 g move value what))), (AM 0, .inl (cY 0, 72, .inl (X8_patch_w1 g tb move value what))), (AM 2, .inl (cY 0, 22, .inl sA)), (AM 3, .inl (cY 0, 22, .inl rd)), (AM 4, .inl (cY 0, 110, .inl kp)), (AM 5, .inl (cY 0, 8414, .inl td)), (AM 6, .inl (cY 0, 2, .inl wn)), (AM 13, .inl (cY 0, 4, .inl rw)), (AM 14, .inl (cY 0, 4, .inl br))] := by simp only [eo_38, eo_39]; exact hD
        exact W.iret (v := 0) hx hb hr (fun t ht hW => ⟨⟨_, (), rfl, eo_37.symm, wPost_of hP9 hD9 ht⟩, hS.F ht⟩) hS.2.2 dX8_patch_55
  · refine lv_iconst (v := 1) hx hb dX8_patch_9 (by decide) ?_
    refine lv_goto (tgt := 48) hx hb dX8_patch_10 (by decide) ?_
    have hPc := hP.sub (ws' := [(m0, .inr (8, mdL AM g)), (AM 0, .inl (cY 0, 72, .inl tb)), (AM 2, .inl (cY 0, 22, .inl sA)), (AM 3, .inl (cY 0, 22, .inl rd)), (AM 4, .inl (cY 0, 110, .inl kp)), (AM 5, .inl (cY 0, 8414, .inl td)), (AM 6, .inl (cY 0, 2, .inl wn)), (AM 13, .inl (cY 0, 4, .inl rw)), (AM 14, .inl (cY 0, 4, .inl br))]) [0, 1, 2, 3, 4, 5, 6, 7, 8] rfl
    have hDc := hD.sub (ws' := [(m0, .inr (8, mdL AM g)), (AM 0, .inl (cY 0, 72, .inl tb)), (AM 2, .inl (cY 0, 22, .inl sA)), (AM 3, .inl (cY 0, 22, .inl rd)), (AM 4, .inl (cY 0, 110, .inl kp)), (AM 5, .inl (cY 0, 8414, .inl td)), (AM 6, .inl (cY 0, 2, .inl wn)), (AM 13, .inl (cY 0, 4, .inl rw)), (AM 14, .inl (cY 0, 4, .inl br))]) [0, 1, 2, 3, 4, 5, 6, 7, 8] (by decide) rfl
    have hFc := va_free (wc := [(m0, .inr (8, mdL AM g)), (AM 0, .inl (cY 0, 72, .inl tb)), (AM 2, .inl (cY 0, 22, .inl sA)), (AM 3, .inl (cY 0, 22, .inl rd)), (AM 4, .inl (cY 0, 110, .inl kp)), (AM 5, .inl (cY 0, 8414, .inl td)), (AM 6, .inl (cY 0, 2, .inl wn)), (AM 13, .inl (cY 0, 4, .inl rw)), (AM 14, .inl (cY 0, 4, .inl br))]) hD hS hA [0, 1, 2, 3, 4, 5, 6, 7, 8] rfl
    refine va_calli (va_runV (As := [.int 1]) (rest := []) ⟨hx, hb, hml, hown, hts⟩ (c_X8_isFine l dC dI cY m0 AM g tb sA rd kp td wn rw br 1 s.heap.size) (cwV 1 hts gX8_patch_X8_isFine rfl rfl rfl (by decide +kernel) ⟨Nat.le_of_ble_eq_true rfl, Nat.le_of_ble_eq_true rfl⟩) ⟨blindW, va_recv hK hPc (ci := 8) (q0 := 0) rfl rfl, fun U hU hW => ⟨rfl, wPre_of hPc hK hN hDc U hU hW⟩⟩ rfl rfl hl.1 rfl (lv_room (Nat.le_of_ble_eq_true rfl)) dX8_patch_48 ⟨Nat.zero_le _, Nat.zero_le _⟩) hS (fun q _ h => hFc q h) hFc (fun r_40 u t H1 locs ht hvm hw hB hz1 hk1 hS1 => ?_)
    obtain ⟨hw, hb_41⟩ := hw
    subst hw
    refine lv_topi (fun x_42 ex_42 => ?_)
    obtain rfl : x_42 = 0 := ex_42.trans (by decide)
    have hJ := wJoin (wr := []) (w1 := [(m0, .inr (8, mdL AM (upd g 12 1))), (AM 0, .inl (cY 0, 72, .inl tb)), (AM 2, .inl (cY 0, 22, .inl sA)), (AM 3, .inl (cY 0, 22, .inl rd)), (AM 4, .inl (cY 0, 110, .inl kp)), (AM 5, .inl (cY 0, 8414, .inl td)), (AM 6, .inl (cY 0, 2, .inl wn)), (AM 13, .inl (cY 0, 4, .inl rw)), (AM 14, .inl (cY 0, 4, .inl br))]) (wn := [(m0, .inr (8, mdL AM (upd g 12 1))), (AM 0, .inl (cY 0, 72, .inl tb)), (AM 2, .inl (cY 0, 22, .inl sA)), (AM 3, .inl (cY 0, 22, .inl rd)), (AM 4, .inl (cY 0, 110, .inl kp)), (AM 5, .inl (cY 0, 8414, .inl td)), (AM 6, .inl (cY 0, 2, .inl wn)), (AM 13, .inl (cY 0, 4, .inl rw)), (AM 14, .inl (cY 0, 4, .inl br))]) hP hD [0, 1, 2, 3, 4, 5, 6, 7, 8] [] rfl rfl (by decide) (by decide) hk1 hFc hB ht [0, 1, 2, 3, 4, 5, 6, 7, 8] rfl (by decide)
    clear hB hk1 hFc hPc hDc hP hD hS hz1 hvm ht t
    obtain ⟨hP1, hD1⟩ := hJ
    generalize H1 = H at hP1 hS1 ⊢
    have hP : va_P (dC, dI) vwCl [(m0, .inr (8, mdL AM (upd g 12 1))), (AM 0, .inl (cY 0, 72, .inl tb)), (AM 2, .inl (cY 0, 22, .inl sA)), (AM 3, .inl (cY 0, 22, .inl rd)), (AM 4, .inl (cY 0, 110, .inl kp)), (AM 5, .inl (cY 0, 8414, .inl td)), (AM 6, .inl (cY 0, 2, .inl wn)), (AM 13, .inl (cY 0, 4, .inl rw)), (AM 14, .inl (cY 0, 4, .inl br))] H := hP1
    have hD : va_D A [(m0, .inr (8, mdL AM (upd g 12 1))), (AM 0, .inl (cY 0, 72, .inl tb)), (AM 2, .inl (cY 0, 22, .inl sA)), (AM 3, .inl (cY 0, 22, .inl rd)), (AM 4, .inl (cY 0, 110, .inl kp)), (AM 5, .inl (cY 0, 8414, .inl td)), (AM 6, .inl (cY 0, 2, .inl wn)), (AM 13, .inl (cY 0, 4, .inl rw)), (AM 14, .inl (cY 0, 4, .inl br))] := hD1
    have hS := hS1
    clear hP1 hD1 hS1
    refine lv_if_ne (tgt := 56) hx hb dX8_patch_51 (by decide) (fun c_43 => ?_) (fun c_43 => ?_)
    · exact absurd (by decide) c_43
    refine lv_iconst (v := 0) hx hb dX8_patch_54 (by decide) ?_
    have eo_44 : (X8_patch_r g tb move value what) = 0 := by rw [X8_patch_r]; simp only [eq_true c_3, ↓reduceIte]
    have eo_45 : (X8_patch_w0 g move value what) = (upd g 12 1) := by rw [X8_patch_w0]; simp only [eq_true c_3, ↓reduceIte]
    have eo_46 : (X8_patch_w1 g tb move value what) = tb := by rw [X8_patch_w1]; simp only [eq_true c_3, ↓reduceIte]
    have hP9 : va_P (dC, dI) vwCl [(m0, .inr (8, mdL AM (X8_patch_w0 g move value what))), (AM 0, .inl (cY 0, 72, .inl (X8_patch_w1 g tb move value what))), (AM 2, .inl (cY 0, 22, .inl sA)), (AM 3, .inl (cY 0, 22, .inl rd)), (AM 4, .inl (cY 0, 110, .inl kp)), (AM 5, .inl (cY 0, 8414, .inl td)), (AM 6, .inl (cY 0, 2, .inl wn)), (AM 13, .inl (cY 0, 4, .inl rw)), (AM 14, .inl (cY 0, 4, .inl br))] H := by simp only [eo_45, eo_46]; exact hP
    have hD9 : va_D A [(m0, .inr (8, mdL AM (X8_patch_w0 g move value what))), (AM 0, .inl (cY 0, 72, .inl (X8_patch_w1 g tb move value what))), (AM 2, .inl (cY 0, 22, .inl sA)), (AM 3, .inl (cY 0, 22, .inl rd)), (AM 4, .inl (cY 0, 110, .inl kp)), (AM 5, .inl (cY 0, 8414, .inl td)), (AM 6, .inl (cY 0, 2, .inl wn)), (AM 13, .inl (cY 0, 4, .inl rw)), (AM 14, .inl (cY 0, 4, .inl br))] := by simp only [eo_45, eo_46]; exact hD
    exact W.iret (v := 0) hx hb hr (fun t ht hW => ⟨⟨_, (), rfl, eo_44.symm, wPost_of hP9 hD9 ht⟩, hS.F ht⟩) hS.2.2 dX8_patch_55
theorem inw_X8_cancel_X8 : ∀ w ∈ u_ws RX8 TX8 17, w ∈ wsX8_cancel := fun _ h => List.mem_cons_of_mem _ (List.mem_append_right _ h)
def X8_cancel_j70 (tb : Nat → Int32) (into : Int32) (move : Int32) : Int32 := (if (((tb ((12 * move) + 11).toNatClampNeg) >>> (into &&& 31)) &&& 1) = 1 then 1 else 0)
def X8_cancel_j109 (tb : Nat → Int32) (into : Int32) (is_ : Int32) (move : Int32) : Int32 := (if is_ = 0 then ((tb ((12 * move) + 11).toNatClampNeg) &&& ((1 <<< (into &&& 31)) ^^^ (-1))) else ((tb ((12 * move) + 11).toNatClampNeg) ||| (1 <<< (into &&& 31))))
def X8_cancel_r (g : Nat → Int32) (tb : Nat → Int32) (into : Int32) (move : Int32) : Int32 := (if (X8_in_r ((g 1) - 1) 0 move) = 0 then 0 else (if (X8_in_r ((g 1) - 1) 0 into) = 0 then 0 else (if (g 9) = 0 then (X8_cancel_j70 tb into move) else 0)))
def X8_cancel_w0 (g : Nat → Int32) (into : Int32) (move : Int32) : Nat → Int32 := (if (X8_in_r ((g 1) - 1) 0 move) = 0 then (upd g 12 1) else (if (X8_in_r ((g 1) - 1) 0 into) = 0 then (upd g 12 1) else (if (g 9) = 0 then (upd g 12 0) else (upd g 12 2))))
def X8_cancel_w1 (g : Nat → Int32) (tb : Nat → Int32) (into : Int32) (is_ : Int32) (move : Int32) : Nat → Int32 := (if (X8_in_r ((g 1) - 1) 0 move) = 0 then tb else (if (X8_in_r ((g 1) - 1) 0 into) = 0 then tb else (if (g 9) = 0 then (upd tb ((12 * move) + 11).toNatClampNeg (X8_cancel_j109 tb into is_ move)) else tb)))
set_option maxHeartbeats 4000000 in
set_option maxRecDepth 100000 in
theorem c_X8_cancel (l : Launch) (dC : Nat → ClassId) (dI : Nat → Nat → Nat) (cY : Nat → ClassId) (m0 : Nat) (AM : Nat → Nat) (g : Nat → Int32) (tb : Nat → Int32) (sA : Nat → Int32) (rd : Nat → Int32) (kp : Nat → Int32) (td : Nat → Int32) (wn : Nat → Int32) (rw : Nat → Int32) (br : Nat → Int32) (move : Int32) (into : Int32) (is_ : Int32) (hmv : vp_in (g 1) 7) (sz : Nat) : Met l yX8_cancel wsX8_cancel ({ frames := 2, cells := 0, slots := 0, locals := 43 } : Room) (va_Pc [.ref m0, .int move, .int into, .int is_] (wPre (dC, dI) (tyL cY) [(m0, .inr (8, mdL AM g)), (AM 0, .inl (cY 0, 72, .inl tb)), (AM 2, .inl (cY 0, 22, .inl sA)), (AM 3, .inl (cY 0, 22, .inl rd)), (AM 4, .inl (cY 0, 110, .inl kp)), (AM 5, .inl (cY 0, 8414, .inl td)), (AM 6, .inl (cY 0, 2, .inl wn)), (AM 13, .inl (cY 0, 4, .inl rw)), (AM 14, .inl (cY 0, 4, .inl br))] sz)) (va_Qi (fun (r : Int32) (_ : Unit) => r = (X8_cancel_r g tb into move) ∧ (r = 0 ∨ r = 1)) (wPost (dC, dI) [(m0, .inr (8, mdL AM (X8_cancel_w0 g into move))), (AM 0, .inl (cY 0, 72, .inl (X8_cancel_w1 g tb into is_ move))), (AM 2, .inl (cY 0, 22, .inl sA)), (AM 3, .inl (cY 0, 22, .inl rd)), (AM 4, .inl (cY 0, 110, .inl kp)), (AM 5, .inl (cY 0, 8414, .inl td)), (AM 6, .inl (cY 0, 2, .inl wn)), (AM 13, .inl (cY 0, 4, .inl rw)), (AM 14, .inl (cY 0, 4, .inl br))] (va_A [(m0, .inr (8, mdL AM g)), (AM 0, .inl (cY 0, 72, .inl tb)), (AM 2, .inl (cY 0, 22, .inl sA)), (AM 3, .inl (cY 0, 22, .inl rd)), (AM 4, .inl (cY 0, 110, .inl kp)), (AM 5, .inl (cY 0, 8414, .inl td)), (AM 6, .inl (cY 0, 2, .inl wn)), (AM 13, .inl (cY 0, 4, .inl rw)), (AM 14, .inl (cY 0, 4, .inl br))] sz)) (va_A [(m0, .inr (8, mdL AM g)), (AM 0, .inl (cY 0, 72, .inl tb)), (AM 2, .inl (cY 0, 22, .inl sA)), (AM 3, .inl (cY 0, 22, .inl rd)), (AM 4, .inl (cY 0, 110, .inl kp)), (AM 5, .inl (cY 0, 8414, .inl td)), (AM 6, .inl (cY 0, 2, .inl wn)), (AM 13, .inl (cY 0, 4, .inl rw)), (AM 14, .inl (cY 0, 4, .inl br))] sz)) 0 0 (va_A [(m0, .inr (8, mdL AM g)), (AM 0, .inl (cY 0, 72, .inl tb)), (AM 2, .inl (cY 0, 22, .inl sA)), (AM 3, .inl (cY 0, 22, .inl rd)), (AM 4, .inl (cY 0, 110, .inl kp)), (AM 5, .inl (cY 0, 8414, .inl td)), (AM 6, .inl (cY 0, 2, .inl wn)), (AM 13, .inl (cY 0, 4, .inl rw)), (AM 14, .inl (cY 0, 4, .inl br))] sz) := by
  refine Met.ofW (cc := cX8_cancel) (maxL := 6) (ret := (some .boolean)) (by decide) rfl ?_
  intro p e s m args below meth c s₁ B hml hv
  obtain ⟨rfl, hsz, hP, hK, hN, hD0⟩ := hv
  have hx := B.exec
  have hb := B.bytes
  have hr := B.returns
  have hts := atoms_spec (ws := wsX8_cancel) B.pre
  have hown : s.vm.findClass RX8 = some m.cls := findClass_of_methodNamed B.named
  have hlocks := B.notSynchronized
  subst hsz
  have hD := hD0.self (sz := s.heap.size)
  generalize hAe : va_A [(m0, .inr (8, mdL AM g)), (AM 0, .inl (cY 0, 72, .inl tb)), (AM 2, .inl (cY 0, 22, .inl sA)), (AM 3, .inl (cY 0, 22, .inl rd)), (AM 4, .inl (cY 0, 110, .inl kp)), (AM 5, .inl (cY 0, 8414, .inl td)), (AM 6, .inl (cY 0, 2, .inl wn)), (AM 13, .inl (cY 0, 4, .inl rw)), (AM 14, .inl (cY 0, 4, .inl br))] s.heap.size = A at hD ⊢
  have hA : ∀ q : Nat, s.heap.size ≤ q → A q := fun q h => by rw [← hAe]; exact Or.inr h
  have hS : va_S A s.heap s.heap [] := va_S.rf
  have hP : va_P (dC, dI) vwCl [(m0, .inr (8, mdL AM g)), (AM 0, .inl (cY 0, 72, .inl tb)), (AM 2, .inl (cY 0, 22, .inl sA)), (AM 3, .inl (cY 0, 22, .inl rd)), (AM 4, .inl (cY 0, 110, .inl kp)), (AM 5, .inl (cY 0, 8414, .inl td)), (AM 6, .inl (cY 0, 2, .inl wn)), (AM 13, .inl (cY 0, 4, .inl rw)), (AM 14, .inl (cY 0, 4, .inl br))] s.heap := hP
  have hl := lv_entry ([.ref m0, .int move, .int into, .int is_]) (n := 6) (Nat.le_of_ble_eq_true rfl)
  rw [lg_entry_eq]
  generalize (lg_sl ([.ref m0, .int move, .int into, .int is_]) ++ List.replicate (6 - (lg_sl ([.ref m0, .int move, .int into, .int is_])).length) Slot.unset).toArray = ls at hl ⊢
  have hl : lv_has ls 6 [(0, .ref m0), (1, .int move), (2, .int into), (3, .int is_)] := hl
  refine lv_aload_n hx hb dX8_cancel_0 rfl (lv_at hl 0 rfl) ?_
  refine lv_aload_n hx hb dX8_cancel_1 rfl (lv_at hl 0 rfl) ?_
  refine lv_iload_n hx hb dX8_cancel_2 rfl (lv_at hl 1 rfl) ?_
  refine vp_callSi (W.runV (As := [.int move]) (rest := [.ref m0]) ⟨hx, hb, hml, hown, hts⟩ (c_X8_isMove l dC dI cY m0 AM g tb sA rd kp td wn rw br move) (cwV 1 hts gX8_cancel_X8_isMove rfl rfl rfl (by decide +kernel) ⟨Nat.le_of_ble_eq_true rfl, Nat.le_of_ble_eq_true rfl⟩) ⟨blindR, va_recv hK hP (ci := 8) (q0 := 0) rfl rfl, fun U hU hW => ⟨rfl, rPre_of hP hK hN U hU hW⟩⟩ rfl rfl hl.1 rfl (lv_room (Nat.le_of_ble_eq_true rfl)) dX8_cancel_3 ⟨Nat.zero_le _, Nat.zero_le _⟩) (fun r_1 hw => ?_)
  obtain ⟨hw, hb_2⟩ := hw
  subst hw
  refine lv_if_eq (tgt := 17) hx hb dX8_cancel_6 (by decide) (fun c_3 => ?_) (fun c_3 => ?_)
  · refine lv_iconst (v := 1) hx hb dX8_cancel_17 (by decide) ?_
    refine lv_goto (tgt := 33) hx hb dX8_cancel_18 (by decide) ?_
    have hPc := hP.sub (ws' := [(m0, .inr (8, mdL AM g)), (AM 0, .inl (cY 0, 72, .inl tb)), (AM 2, .inl (cY 0, 22, .inl sA)), (AM 3, .inl (cY 0, 22, .inl rd)), (AM 4, .inl (cY 0, 110, .inl kp)), (AM 5, .inl (cY 0, 8414, .inl td)), (AM 6, .inl (cY 0, 2, .inl wn)), (AM 13, .inl (cY 0, 4, .inl rw)), (AM 14, .inl (cY 0, 4, .inl br))]) [0, 1, 2, 3, 4, 5, 6, 7, 8] rfl
    have hDc := hD.sub (ws' := [(m0, .inr (8, mdL AM g)), (AM 0, .inl (cY 0, 72, .inl tb)), (AM 2, .inl (cY 0, 22, .inl sA)), (AM 3, .inl (cY 0, 22, .inl rd)), (AM 4, .inl (cY 0, 110, .inl kp)), (AM 5, .inl (cY 0, 8414, .inl td)), (AM 6, .inl (cY 0, 2, .inl wn)), (AM 13, .inl (cY 0, 4, .inl rw)), (AM 14, .inl (cY 0, 4, .inl br))]) [0, 1, 2, 3, 4, 5, 6, 7, 8] (by decide) rfl
    have hFc := va_free (wc := [(m0, .inr (8, mdL AM g)), (AM 0, .inl (cY 0, 72, .inl tb)), (AM 2, .inl (cY 0, 22, .inl sA)), (AM 3, .inl (cY 0, 22, .inl rd)), (AM 4, .inl (cY 0, 110, .inl kp)), (AM 5, .inl (cY 0, 8414, .inl td)), (AM 6, .inl (cY 0, 2, .inl wn)), (AM 13, .inl (cY 0, 4, .inl rw)), (AM 14, .inl (cY 0, 4, .inl br))]) hD hS hA [0, 1, 2, 3, 4, 5, 6, 7, 8] rfl
    refine va_calli (va_runV (As := [.int 1]) (rest := []) ⟨hx, hb, hml, hown, hts⟩ (c_X8_isFine l dC dI cY m0 AM g tb sA rd kp td wn rw br 1 s.heap.size) (cwV 1 hts gX8_cancel_X8_isFine rfl rfl rfl (by decide +kernel) ⟨Nat.le_of_ble_eq_true rfl, Nat.le_of_ble_eq_true rfl⟩) ⟨blindW, va_recv hK hPc (ci := 8) (q0 := 0) rfl rfl, fun U hU hW => ⟨rfl, wPre_of hPc hK hN hDc U hU hW⟩⟩ rfl rfl hl.1 rfl (lv_room (Nat.le_of_ble_eq_true rfl)) dX8_cancel_33 ⟨Nat.zero_le _, Nat.zero_le _⟩) hS (fun q _ h => hFc q h) hFc (fun r_4 u t H1 locs ht hvm hw hB hz1 hk1 hS1 => ?_)
    obtain ⟨hw, hb_5⟩ := hw
    subst hw
    refine lv_topi (fun x_6 ex_6 => ?_)
    obtain rfl : x_6 = 0 := ex_6.trans (by decide)
    have hJ := wJoin (wr := []) (w1 := [(m0, .inr (8, mdL AM (upd g 12 1))), (AM 0, .inl (cY 0, 72, .inl tb)), (AM 2, .inl (cY 0, 22, .inl sA)), (AM 3, .inl (cY 0, 22, .inl rd)), (AM 4, .inl (cY 0, 110, .inl kp)), (AM 5, .inl (cY 0, 8414, .inl td)), (AM 6, .inl (cY 0, 2, .inl wn)), (AM 13, .inl (cY 0, 4, .inl rw)), (AM 14, .inl (cY 0, 4, .inl br))]) (wn := [(m0, .inr (8, mdL AM (upd g 12 1))), (AM 0, .inl (cY 0, 72, .inl tb)), (AM 2, .inl (cY 0, 22, .inl sA)), (AM 3, .inl (cY 0, 22, .inl rd)), (AM 4, .inl (cY 0, 110, .inl kp)), (AM 5, .inl (cY 0, 8414, .inl td)), (AM 6, .inl (cY 0, 2, .inl wn)), (AM 13, .inl (cY 0, 4, .inl rw)), (AM 14, .inl (cY 0, 4, .inl br))]) hP hD [0, 1, 2, 3, 4, 5, 6, 7, 8] [] rfl rfl (by decide) (by decide) hk1 hFc hB ht [0, 1, 2, 3, 4, 5, 6, 7, 8] rfl (by decide)
    clear hB hk1 hFc hPc hDc hP hD hS hz1 hvm ht t
    obtain ⟨hP1, hD1⟩ := hJ
    generalize H1 = H at hP1 hS1 ⊢
    have hP : va_P (dC, dI) vwCl [(m0, .inr (8, mdL AM (upd g 12 1))), (AM 0, .inl (cY 0, 72, .inl tb)), (AM 2, .inl (cY 0, 22, .inl sA)), (AM 3, .inl (cY 0, 22, .inl rd)), (AM 4, .inl (cY 0, 110, .inl kp)), (AM 5, .inl (cY 0, 8414, .inl td)), (AM 6, .inl (cY 0, 2, .inl wn)), (AM 13, .inl (cY 0, 4, .inl rw)), (AM 14, .inl (cY 0, 4, .inl br))] H := hP1
    have hD : va_D A [(m0, .inr (8, mdL AM (upd g 12 1))), (AM 0, .inl (cY 0, 72, .inl tb)), (AM 2, .inl (cY 0, 22, .inl sA)), (AM 3, .inl (cY 0, 22, .inl rd)), (AM 4, .inl (cY 0, 110, .inl kp)), (AM 5, .inl (cY 0, 8414, .inl td)), (AM 6, .inl (cY 0, 2, .inl wn)), (AM 13, .inl (cY 0, 4, .inl rw)), (AM 14, .inl (cY 0, 4, .inl br))] := hD1
    have hS := hS1
    clear hP1 hD1 hS1
    refine lv_if_ne (tgt := 41) hx hb dX8_cancel_36 (by decide) (fun c_7 => ?_) (fun c_7 => ?_)
    · exact absurd (by decide) c_7
    refine lv_iconst (v := 0) hx hb dX8_cancel_39 (by decide) ?_
    have eo_8 : (X8_cancel_r g tb into move) = 0 := by rw [X8_cancel_r]; simp only [eq_true c_3, ↓reduceIte]
    have eo_9 : (X8_cancel_w0 g into move) = (upd g 12 1) := by rw [X8_cancel_w0]; simp only [eq_true c_3, ↓reduceIte]
    have eo_10 : (X8_cancel_w1 g tb into is_ move) = tb := by rw [X8_cancel_w1]; simp only [eq_true c_3, ↓reduceIte]
    have hP9 : va_P (dC, dI) vwCl [(m0, .inr (8, mdL AM (X8_cancel_w0 g into move))), (AM 0, .inl (cY 0, 72, .inl (X8_cancel_w1 g tb into is_ move))), (AM 2, .inl (cY 0, 22, .inl sA)), (AM 3, .inl (cY 0, 22, .inl rd)), (AM 4, .inl (cY 0, 110, .inl kp)), (AM 5, .inl (cY 0, 8414, .inl td)), (AM 6, .inl (cY 0, 2, .inl wn)), (AM 13, .inl (cY 0, 4, .inl rw)), (AM 14, .inl (cY 0, 4, .inl br))] H := by simp only [eo_9, eo_10]; exact hP
    have hD9 : va_D A [(m0, .inr (8, mdL AM (X8_cancel_w0 g into move))), (AM 0, .inl (cY 0, 72, .inl (X8_cancel_w1 g tb into is_ move))), (AM 2, .inl (cY 0, 22, .inl sA)), (AM 3, .inl (cY 0, 22, .inl rd)), (AM 4, .inl (cY 0, 110, .inl kp)), (AM 5, .inl (cY 0, 8414, .inl td)), (AM 6, .inl (cY 0, 2, .inl wn)), (AM 13, .inl (cY 0, 4, .inl rw)), (AM 14, .inl (cY 0, 4, .inl br))] := by simp only [eo_9, eo_10]; exact hD
    exact W.zret (v := 0) (ty := .boolean) hx hb hr rfl (fun t ht hW => ⟨⟨_, (), rfl, ⟨eo_8.symm, (by decide)⟩, wPost_of hP9 hD9 ht⟩, hS.F ht⟩) hS.2.2 dX8_cancel_40
  · refine lv_aload_n hx hb dX8_cancel_9 rfl (lv_at hl 0 rfl) ?_
    refine lv_iload_n hx hb dX8_cancel_10 rfl (lv_at hl 2 rfl) ?_
    refine vp_callSi (W.runV (As := [.int into]) (rest := [.ref m0]) ⟨hx, hb, hml, hown, hts⟩ (c_X8_isMove l dC dI cY m0 AM g tb sA rd kp td wn rw br into) (cwV 1 hts gX8_cancel_X8_isMove rfl rfl rfl (by decide +kernel) ⟨Nat.le_of_ble_eq_true rfl, Nat.le_of_ble_eq_true rfl⟩) ⟨blindR, va_recv hK hP (ci := 8) (q0 := 0) rfl rfl, fun U hU hW => ⟨rfl, rPre_of hP hK hN U hU hW⟩⟩ rfl rfl hl.1 rfl (lv_room (Nat.le_of_ble_eq_true rfl)) dX8_cancel_11 ⟨Nat.zero_le _, Nat.zero_le _⟩) (fun r_11 hw => ?_)
    obtain ⟨hw, hb_12⟩ := hw
    subst hw
    refine lv_if_ne (tgt := 21) hx hb dX8_cancel_14 (by decide) (fun c_13 => ?_) (fun c_13 => ?_)
    · refine lv_aload_n hx hb dX8_cancel_21 rfl (lv_at hl 0 rfl) ?_
      refine va_get (D := (dC, dI)) (ci := 8) (v := .int (g 9)) (C := RX8) (T := TX8) (N := 17) hx hb hts inw_X8_cancel_X8 hown hK hP 0 rfl rfl 9 (by decide) (hts (.fieldLink RX8 51 "DuelFramesModel" "goesOn" "Z") (List.mem_of_getElem? (i := 1) rfl)) (fun _ h9 => h9) rfl dX8_cancel_22 ?_
      refine lv_if_eq (tgt := 32) hx hb dX8_cancel_25 (by decide) (fun c_14 => ?_) (fun c_14 => ?_)
      · refine lv_iconst (v := 0) hx hb dX8_cancel_32 (by decide) ?_
        have hPc := hP.sub (ws' := [(m0, .inr (8, mdL AM g)), (AM 0, .inl (cY 0, 72, .inl tb)), (AM 2, .inl (cY 0, 22, .inl sA)), (AM 3, .inl (cY 0, 22, .inl rd)), (AM 4, .inl (cY 0, 110, .inl kp)), (AM 5, .inl (cY 0, 8414, .inl td)), (AM 6, .inl (cY 0, 2, .inl wn)), (AM 13, .inl (cY 0, 4, .inl rw)), (AM 14, .inl (cY 0, 4, .inl br))]) [0, 1, 2, 3, 4, 5, 6, 7, 8] rfl
        have hDc := hD.sub (ws' := [(m0, .inr (8, mdL AM g)), (AM 0, .inl (cY 0, 72, .inl tb)), (AM 2, .inl (cY 0, 22, .inl sA)), (AM 3, .inl (cY 0, 22, .inl rd)), (AM 4, .inl (cY 0, 110, .inl kp)), (AM 5, .inl (cY 0, 8414, .inl td)), (AM 6, .inl (cY 0, 2, .inl wn)), (AM 13, .inl (cY 0, 4, .inl rw)), (AM 14, .inl (cY 0, 4, .inl br))]) [0, 1, 2, 3, 4, 5, 6, 7, 8] (by decide) rfl
        have hFc := va_free (wc := [(m0, .inr (8, mdL AM g)), (AM 0, .inl (cY 0, 72, .inl tb)), (AM 2, .inl (cY 0, 22, .inl sA)), (AM 3, .inl (cY 0, 22, .inl rd)), (AM 4, .inl (cY 0, 110, .inl kp)), (AM 5, .inl (cY 0, 8414, .inl td)), (AM 6, .inl (cY 0, 2, .inl wn)), (AM 13, .inl (cY 0, 4, .inl rw)), (AM 14, .inl (cY 0, 4, .inl br))]) hD hS hA [0, 1, 2, 3, 4, 5, 6, 7, 8] rfl
        refine va_calli (va_runV (As := [.int 0]) (rest := []) ⟨hx, hb, hml, hown, hts⟩ (c_X8_isFine l dC dI cY m0 AM g tb sA rd kp td wn rw br 0 s.heap.size) (cwV 1 hts gX8_cancel_X8_isFine rfl rfl rfl (by decide +kernel) ⟨Nat.le_of_ble_eq_true rfl, Nat.le_of_ble_eq_true rfl⟩) ⟨blindW, va_recv hK hPc (ci := 8) (q0 := 0) rfl rfl, fun U hU hW => ⟨rfl, wPre_of hPc hK hN hDc U hU hW⟩⟩ rfl rfl hl.1 rfl (lv_room (Nat.le_of_ble_eq_true rfl)) dX8_cancel_33 ⟨Nat.zero_le _, Nat.zero_le _⟩) hS (fun q _ h => hFc q h) hFc (fun r_15 u t H1 locs ht hvm hw hB hz1 hk1 hS1 => ?_)
        obtain ⟨hw, hb_16⟩ := hw
        subst hw
        refine lv_topi (fun x_17 ex_17 => ?_)
        obtain rfl : x_17 = 1 := ex_17.trans (by decide)
        have hJ := wJoin (wr := []) (w1 := [(m0, .inr (8, mdL AM (upd g 12 0))), (AM 0, .inl (cY 0, 72, .inl tb)), (AM 2, .inl (cY 0, 22, .inl sA)), (AM 3, .inl (cY 0, 22, .inl rd)), (AM 4, .inl (cY 0, 110, .inl kp)), (AM 5, .inl (cY 0, 8414, .inl td)), (AM 6, .inl (cY 0, 2, .inl wn)), (AM 13, .inl (cY 0, 4, .inl rw)), (AM 14, .inl (cY 0, 4, .inl br))]) (wn := [(m0, .inr (8, mdL AM (upd g 12 0))), (AM 0, .inl (cY 0, 72, .inl tb)), (AM 2, .inl (cY 0, 22, .inl sA)), (AM 3, .inl (cY 0, 22, .inl rd)), (AM 4, .inl (cY 0, 110, .inl kp)), (AM 5, .inl (cY 0, 8414, .inl td)), (AM 6, .inl (cY 0, 2, .inl wn)), (AM 13, .inl (cY 0, 4, .inl rw)), (AM 14, .inl (cY 0, 4, .inl br))]) hP hD [0, 1, 2, 3, 4, 5, 6, 7, 8] [] rfl rfl (by decide) (by decide) hk1 hFc hB ht [0, 1, 2, 3, 4, 5, 6, 7, 8] rfl (by decide)
        clear hB hk1 hFc hPc hDc hP hD hS hz1 hvm ht t
        obtain ⟨hP1, hD1⟩ := hJ
        generalize H1 = H at hP1 hS1 ⊢
        have hP : va_P (dC, dI) vwCl [(m0, .inr (8, mdL AM (upd g 12 0))), (AM 0, .inl (cY 0, 72, .inl tb)), (AM 2, .inl (cY 0, 22, .inl sA)), (AM 3, .inl (cY 0, 22, .inl rd)), (AM 4, .inl (cY 0, 110, .inl kp)), (AM 5, .inl (cY 0, 8414, .inl td)), (AM 6, .inl (cY 0, 2, .inl wn)), (AM 13, .inl (cY 0, 4, .inl rw)), (AM 14, .inl (cY 0, 4, .inl br))] H := hP1
        have hD : va_D A [(m0, .inr (8, mdL AM (upd g 12 0))), (AM 0, .inl (cY 0, 72, .inl tb)), (AM 2, .inl (cY 0, 22, .inl sA)), (AM 3, .inl (cY 0, 22, .inl rd)), (AM 4, .inl (cY 0, 110, .inl kp)), (AM 5, .inl (cY 0, 8414, .inl td)), (AM 6, .inl (cY 0, 2, .inl wn)), (AM 13, .inl (cY 0, 4, .inl rw)), (AM 14, .inl (cY 0, 4, .inl br))] := hD1
        have hS := hS1
        clear hP1 hD1 hS1
        refine lv_if_ne (tgt := 41) hx hb dX8_cancel_36 (by decide) (fun c_18 => ?_) (fun c_18 => ?_)
        rotate_left
        · exact absurd c_18 (by decide)
        refine lv_bipush (v := 12) hx hb dX8_cancel_41 (by decide) ?_
        refine lv_iload_n hx hb dX8_cancel_43 rfl (lv_at hl 1 rfl) ?_
        refine lv_imul hx hb dX8_cancel_44 ?_
        refine lv_bipush (v := 11) hx hb dX8_cancel_45 (by decide) ?_
        refine lv_iadd hx hb dX8_cancel_47 ?_
        refine lv_istore (lv' := [(4, .int ((12 * move) + 11)), (0, .ref m0), (1, .int move), (2, .int into), (3, .int is_)]) hx hb dX8_cancel_48 hl (by decide) rfl (fun ls hl => ?_)
        refine lv_aload_n hx hb dX8_cancel_50 rfl (lv_at hl 1 rfl) ?_
        refine va_get (D := (dC, dI)) (ci := 8) (v := .ref (AM 0)) (C := RX8) (T := TX8) (N := 17) hx hb hts inw_X8_cancel_X8 hown hK hP 0 rfl rfl 0 (by decide) (hts (.fieldLink RX8 7 "DuelFramesModel" "table" "[I") (List.mem_of_getElem? (i := 2) rfl)) (fun _ h9 => h9) rfl dX8_cancel_51 ?_
        refine lv_iload hx hb dX8_cancel_54 (lv_at hl 0 rfl) ?_
        refine va_iald hx hb hK hP 1 0 rfl rfl (tb_in (isMove_ok hmv c_3) (vin rfl)) dX8_cancel_56 ?_
        refine lv_topi (fun x_19 ex_19 => ?_)
        obtain rfl : x_19 = (tb ((12 * move) + 11).toNatClampNeg) := ex_19
        refine lv_iload_n hx hb dX8_cancel_57 rfl (lv_at hl 3 rfl) ?_
        refine lv_ishr hx hb dX8_cancel_58 ?_
        refine lv_iconst (v := 1) hx hb dX8_cancel_59 (by decide) ?_
        refine lv_iand hx hb dX8_cancel_60 ?_
        refine lv_iconst (v := 1) hx hb dX8_cancel_61 (by decide) ?_
        refine jnW (D := (dC, dI)) (ws := [(m0, .inr (8, mdL AM (upd g 12 0))), (AM 0, .inl (cY 0, 72, .inl tb)), (AM 2, .inl (cY 0, 22, .inl sA)), (AM 3, .inl (cY 0, 22, .inl rd)), (AM 4, .inl (cY 0, 110, .inl kp)), (AM 5, .inl (cY 0, 8414, .inl td)), (AM 6, .inl (cY 0, 2, .inl wn)), (AM 13, .inl (cY 0, 4, .inl rw)), (AM 14, .inl (cY 0, 4, .inl br))]) (lv := [(4, .int ((12 * move) + 11)), (0, .ref m0), (2, .int into), (3, .int is_)]) (st := [.int (X8_cancel_j70 tb into move)]) (J := 70) (n := 6) (A := A) (H0 := s.heap) ?_ ?_
        · intro H locs ls hP hD hS hl
          refine lv_istore (lv' := [(5, .int (X8_cancel_j70 tb into move)), (4, .int ((12 * move) + 11)), (0, .ref m0), (2, .int into), (3, .int is_)]) hx hb dX8_cancel_70 hl (by decide) rfl (fun ls hl => ?_)
          refine lv_aload_n hx hb dX8_cancel_72 rfl (lv_at hl 2 rfl) ?_
          refine va_get (D := (dC, dI)) (ci := 8) (v := .ref (AM 0)) (C := RX8) (T := TX8) (N := 17) hx hb hts inw_X8_cancel_X8 hown hK hP 0 rfl rfl 0 (by decide) (hts (.fieldLink RX8 7 "DuelFramesModel" "table" "[I") (List.mem_of_getElem? (i := 2) rfl)) (fun _ h9 => h9) rfl dX8_cancel_73 ?_
          refine lv_iload hx hb dX8_cancel_76 (lv_at hl 1 rfl) ?_
          refine lv_iload_n hx hb dX8_cancel_78 rfl (lv_at hl 4 rfl) ?_
          refine jnW (D := (dC, dI)) (ws := [(m0, .inr (8, mdL AM (upd g 12 0))), (AM 0, .inl (cY 0, 72, .inl tb)), (AM 2, .inl (cY 0, 22, .inl sA)), (AM 3, .inl (cY 0, 22, .inl rd)), (AM 4, .inl (cY 0, 110, .inl kp)), (AM 5, .inl (cY 0, 8414, .inl td)), (AM 6, .inl (cY 0, 2, .inl wn)), (AM 13, .inl (cY 0, 4, .inl rw)), (AM 14, .inl (cY 0, 4, .inl br))]) (lv := [(5, .int (X8_cancel_j70 tb into move))]) (st := [.int (X8_cancel_j109 tb into is_ move), .int ((12 * move) + 11), .ref (AM 0)]) (J := 109) (n := 6) (A := A) (H0 := s.heap) ?_ ?_
          · intro H locs ls hP hD hS hl
            refine va_iast hx hb hK hP hD hS 1 0 rfl rfl (tb_in (isMove_ok hmv c_3) (vin rfl)) dX8_cancel_109 (fun H locs hP1 hD1 hS1 => ?_)
            clear hP hD hS
            have hP : va_P (dC, dI) vwCl [(m0, .inr (8, mdL AM (upd g 12 0))), (AM 0, .inl (cY 0, 72, .inl (upd tb ((12 * move) + 11).toNatClampNeg (X8_cancel_j109 tb into is_ move)))), (AM 2, .inl (cY 0, 22, .inl sA)), (AM 3, .inl (cY 0, 22, .inl rd)), (AM 4, .inl (cY 0, 110, .inl kp)), (AM 5, .inl (cY 0, 8414, .inl td)), (AM 6, .inl (cY 0, 2, .inl wn)), (AM 13, .inl (cY 0, 4, .inl rw)), (AM 14, .inl (cY 0, 4, .inl br))] H := hP1
            have hD : va_D A [(m0, .inr (8, mdL AM (upd g 12 0))), (AM 0, .inl (cY 0, 72, .inl (upd tb ((12 * move) + 11).toNatClampNeg (X8_cancel_j109 tb into is_ move)))), (AM 2, .inl (cY 0, 22, .inl sA)), (AM 3, .inl (cY 0, 22, .inl rd)), (AM 4, .inl (cY 0, 110, .inl kp)), (AM 5, .inl (cY 0, 8414, .inl td)), (AM 6, .inl (cY 0, 2, .inl wn)), (AM 13, .inl (cY 0, 4, .inl rw)), (AM 14, .inl (cY 0, 4, .inl br))] := hD1
            have hS := hS1
            clear hP1 hD1 hS1
            refine lv_iload hx hb dX8_cancel_110 (lv_at hl 0 rfl) ?_
            have eo_24 : (X8_cancel_r g tb into move) = (X8_cancel_j70 tb into move) := by rw [X8_cancel_r]; simp only [eq_false c_3, eq_false c_13, eq_true c_14, ↓reduceIte]
            have eo_25 : (X8_cancel_w0 g into move) = (upd g 12 0) := by rw [X8_cancel_w0]; simp only [eq_false c_3, eq_false c_13, eq_true c_14, ↓reduceIte]
            have eo_26 : (X8_cancel_w1 g tb into is_ move) = (upd tb ((12 * move) + 11).toNatClampNeg (X8_cancel_j109 tb into is_ move)) := by rw [X8_cancel_w1]; simp only [eq_false c_3, eq_false c_13, eq_true c_14, ↓reduceIte]
            have hP9 : va_P (dC, dI) vwCl [(m0, .inr (8, mdL AM (X8_cancel_w0 g into move))), (AM 0, .inl (cY 0, 72, .inl (X8_cancel_w1 g tb into is_ move))), (AM 2, .inl (cY 0, 22, .inl sA)), (AM 3, .inl (cY 0, 22, .inl rd)), (AM 4, .inl (cY 0, 110, .inl kp)), (AM 5, .inl (cY 0, 8414, .inl td)), (AM 6, .inl (cY 0, 2, .inl wn)), (AM 13, .inl (cY 0, 4, .inl rw)), (AM 14, .inl (cY 0, 4, .inl br))] H := by simp only [eo_25, eo_26]; exact hP
            have hD9 : va_D A [(m0, .inr (8, mdL AM (X8_cancel_w0 g into move))), (AM 0, .inl (cY 0, 72, .inl (X8_cancel_w1 g tb into is_ move))), (AM 2, .inl (cY 0, 22, .inl sA)), (AM 3, .inl (cY 0, 22, .inl rd)), (AM 4, .inl (cY 0, 110, .inl kp)), (AM 5, .inl (cY 0, 8414, .inl td)), (AM 6, .inl (cY 0, 2, .inl wn)), (AM 13, .inl (cY 0, 4, .inl rw)), (AM 14, .inl (cY 0, 4, .inl br))] := by simp only [eo_25, eo_26]; exact hD
            exact W.zret (v := (X8_cancel_j70 tb into move)) (ty := .boolean) hx hb hr (zb_n (show (X8_cancel_j70 tb into move) = 0 ∨ (X8_cancel_j70 tb into move) = 1 by unfold X8_cancel_j70; (repeat' split) <;> decide)) (fun t ht hW => ⟨⟨_, (), rfl, ⟨eo_24.symm, (show (X8_cancel_j70 tb into move) = 0 ∨ (X8_cancel_j70 tb into move) = 1 by unfold X8_cancel_j70; (repeat' split) <;> decide)⟩, wPost_of hP9 hD9 ht⟩, hS.F ht⟩) hS.2.2 dX8_cancel_112
          · intro jn_23
            refine lv_if_eq (tgt := 96) hx hb dX8_cancel_79 (by decide) (fun c_22 => ?_) (fun c_22 => ?_)
            · refine lv_aload_n hx hb dX8_cancel_96 rfl (lv_at hl 2 rfl) ?_
              refine va_get (D := (dC, dI)) (ci := 8) (v := .ref (AM 0)) (C := RX8) (T := TX8) (N := 17) hx hb hts inw_X8_cancel_X8 hown hK hP 0 rfl rfl 0 (by decide) (hts (.fieldLink RX8 7 "DuelFramesModel" "table" "[I") (List.mem_of_getElem? (i := 2) rfl)) (fun _ h9 => h9) rfl dX8_cancel_97 ?_
              refine lv_iload hx hb dX8_cancel_100 (lv_at hl 1 rfl) ?_
              refine va_iald hx hb hK hP 1 0 rfl rfl (tb_in (isMove_ok hmv c_3) (vin rfl)) dX8_cancel_102 ?_
              refine lv_topi (fun x_27 ex_27 => ?_)
              obtain rfl : x_27 = (tb ((12 * move) + 11).toNatClampNeg) := ex_27
              refine lv_iconst (v := 1) hx hb dX8_cancel_103 (by decide) ?_
              refine lv_iload_n hx hb dX8_cancel_104 rfl (lv_at hl 3 rfl) ?_
              refine lv_ishl hx hb dX8_cancel_105 ?_
              refine lv_iconst (v := (-1)) hx hb dX8_cancel_106 (by decide) ?_
              refine lv_ixor hx hb dX8_cancel_107 ?_
              refine lv_iand hx hb dX8_cancel_108 ?_
              have e_28 : (X8_cancel_j109 tb into is_ move) = ((tb ((12 * move) + 11).toNatClampNeg) &&& ((1 <<< (into &&& 31)) ^^^ (-1))) := by rw [X8_cancel_j109]; simp only [eq_true c_22, ↓reduceIte]
              refine W.eq (g2 := F0 m 109 ls [.int (X8_cancel_j109 tb into is_ move), .int ((12 * move) + 11), .ref (AM 0)]) (by simp only [e_28]) ?_
              exact jn_23 _ _ _ (by (try simp only [e_28]); exact hP) (by (try simp only [e_28]); exact hD) hS (by (try simp only [e_28]); exact (lv_sub hl [0] rfl))
            · refine lv_aload_n hx hb dX8_cancel_82 rfl (lv_at hl 2 rfl) ?_
              refine va_get (D := (dC, dI)) (ci := 8) (v := .ref (AM 0)) (C := RX8) (T := TX8) (N := 17) hx hb hts inw_X8_cancel_X8 hown hK hP 0 rfl rfl 0 (by decide) (hts (.fieldLink RX8 7 "DuelFramesModel" "table" "[I") (List.mem_of_getElem? (i := 2) rfl)) (fun _ h9 => h9) rfl dX8_cancel_83 ?_
              refine lv_iload hx hb dX8_cancel_86 (lv_at hl 1 rfl) ?_
              refine va_iald hx hb hK hP 1 0 rfl rfl (tb_in (isMove_ok hmv c_3) (vin rfl)) dX8_cancel_88 ?_
              refine lv_topi (fun x_29 ex_29 => ?_)
              obtain rfl : x_29 = (tb ((12 * move) + 11).toNatClampNeg) := ex_29
              refine lv_iconst (v := 1) hx hb dX8_cancel_89 (by decide) ?_
              refine lv_iload_n hx hb dX8_cancel_90 rfl (lv_at hl 3 rfl) ?_
              refine lv_ishl hx hb dX8_cancel_91 ?_
              refine lv_ior hx hb dX8_cancel_92 ?_
              refine lv_goto (tgt := 109) hx hb dX8_cancel_93 (by decide) ?_
              have e_30 : (X8_cancel_j109 tb into is_ move) = ((tb ((12 * move) + 11).toNatClampNeg) ||| (1 <<< (into &&& 31))) := by rw [X8_cancel_j109]; simp only [eq_false c_22, ↓reduceIte]
              refine W.eq (g2 := F0 m 109 ls [.int (X8_cancel_j109 tb into is_ move), .int ((12 * move) + 11), .ref (AM 0)]) (by simp only [e_30]) ?_
              exact jn_23 _ _ _ (by (try simp only [e_30]); exact hP) (by (try simp only [e_30]); exact hD) hS (by (try simp only [e_30]); exact (lv_sub hl [0] rfl))
        · intro jn_21
          refine lv_icmp_ne (tgt := 69) hx hb dX8_cancel_62 (by decide) (fun c_20 => ?_) (fun c_20 => ?_)
          · refine lv_iconst (v := 0) hx hb dX8_cancel_69 (by decide) ?_
            have e_31 : (X8_cancel_j70 tb into move) = 0 := by rw [X8_cancel_j70]; simp only [eq_false c_20, ↓reduceIte]
            refine W.eq (g2 := F0 m 70 ls [.int (X8_cancel_j70 tb into move)]) (by simp only [e_31]) ?_
            exact jn_21 _ _ _ (by (try simp only [e_31]); exact hP) (by (try simp only [e_31]); exact hD) hS (by (try simp only [e_31]); exact (lv_sub hl [0, 1, 3, 4] rfl))
          · refine lv_iconst (v := 1) hx hb dX8_cancel_65 (by decide) ?_
            refine lv_goto (tgt := 70) hx hb dX8_cancel_66 (by decide) ?_
            have e_32 : (X8_cancel_j70 tb into move) = 1 := by rw [X8_cancel_j70]; simp only [eq_true c_20, ↓reduceIte]
            refine W.eq (g2 := F0 m 70 ls [.int (X8_cancel_j70 tb into move)]) (by simp only [e_32]) ?_
            exact jn_21 _ _ _ (by (try simp only [e_32]); exact hP) (by (try simp only [e_32]); exact hD) hS (by (try simp only [e_32]); exact (lv_sub hl [0, 1, 3, 4] rfl))
      · refine lv_iconst (v := 2) hx hb dX8_cancel_28 (by decide) ?_
        refine lv_goto (tgt := 33) hx hb dX8_cancel_29 (by decide) ?_
        have hPc := hP.sub (ws' := [(m0, .inr (8, mdL AM g)), (AM 0, .inl (cY 0, 72, .inl tb)), (AM 2, .inl (cY 0, 22, .inl sA)), (AM 3, .inl (cY 0, 22, .inl rd)), (AM 4, .inl (cY 0, 110, .inl kp)), (AM 5, .inl (cY 0, 8414, .inl td)), (AM 6, .inl (cY 0, 2, .inl wn)), (AM 13, .inl (cY 0, 4, .inl rw)), (AM 14, .inl (cY 0, 4, .inl br))]) [0, 1, 2, 3, 4, 5, 6, 7, 8] rfl
        have hDc := hD.sub (ws' := [(m0, .inr (8, mdL AM g)), (AM 0, .inl (cY 0, 72, .inl tb)), (AM 2, .inl (cY 0, 22, .inl sA)), (AM 3, .inl (cY 0, 22, .inl rd)), (AM 4, .inl (cY 0, 110, .inl kp)), (AM 5, .inl (cY 0, 8414, .inl td)), (AM 6, .inl (cY 0, 2, .inl wn)), (AM 13, .inl (cY 0, 4, .inl rw)), (AM 14, .inl (cY 0, 4, .inl br))]) [0, 1, 2, 3, 4, 5, 6, 7, 8] (by decide) rfl
        have hFc := va_free (wc := [(m0, .inr (8, mdL AM g)), (AM 0, .inl (cY 0, 72, .inl tb)), (AM 2, .inl (cY 0, 22, .inl sA)), (AM 3, .inl (cY 0, 22, .inl rd)), (AM 4, .inl (cY 0, 110, .inl kp)), (AM 5, .inl (cY 0, 8414, .inl td)), (AM 6, .inl (cY 0, 2, .inl wn)), (AM 13, .inl (cY 0, 4, .inl rw)), (AM 14, .inl (cY 0, 4, .inl br))]) hD hS hA [0, 1, 2, 3, 4, 5, 6, 7, 8] rfl
        refine va_calli (va_runV (As := [.int 2]) (rest := []) ⟨hx, hb, hml, hown, hts⟩ (c_X8_isFine l dC dI cY m0 AM g tb sA rd kp td wn rw br 2 s.heap.size) (cwV 1 hts gX8_cancel_X8_isFine rfl rfl rfl (by decide +kernel) ⟨Nat.le_of_ble_eq_true rfl, Nat.le_of_ble_eq_true rfl⟩) ⟨blindW, va_recv hK hPc (ci := 8) (q0 := 0) rfl rfl, fun U hU hW => ⟨rfl, wPre_of hPc hK hN hDc U hU hW⟩⟩ rfl rfl hl.1 rfl (lv_room (Nat.le_of_ble_eq_true rfl)) dX8_cancel_33 ⟨Nat.zero_le _, Nat.zero_le _⟩) hS (fun q _ h => hFc q h) hFc (fun r_33 u t H1 locs ht hvm hw hB hz1 hk1 hS1 => ?_)
        obtain ⟨hw, hb_34⟩ := hw
        subst hw
        refine lv_topi (fun x_35 ex_35 => ?_)
        obtain rfl : x_35 = 0 := ex_35.trans (by decide)
        have hJ := wJoin (wr := []) (w1 := [(m0, .inr (8, mdL AM (upd g 12 2))), (AM 0, .inl (cY 0, 72, .inl tb)), (AM 2, .inl (cY 0, 22, .inl sA)), (AM 3, .inl (cY 0, 22, .inl rd)), (AM 4, .inl (cY 0, 110, .inl kp)), (AM 5, .inl (cY 0, 8414, .inl td)), (AM 6, .inl (cY 0, 2, .inl wn)), (AM 13, .inl (cY 0, 4, .inl rw)), (AM 14, .inl (cY 0, 4, .inl br))]) (wn := [(m0, .inr (8, mdL AM (upd g 12 2))), (AM 0, .inl (cY 0, 72, .inl tb)), (AM 2, .inl (cY 0, 22, .inl sA)), (AM 3, .inl (cY 0, 22, .inl rd)), (AM 4, .inl (cY 0, 110, .inl kp)), (AM 5, .inl (cY 0, 8414, .inl td)), (AM 6, .inl (cY 0, 2, .inl wn)), (AM 13, .inl (cY 0, 4, .inl rw)), (AM 14, .inl (cY 0, 4, .inl br))]) hP hD [0, 1, 2, 3, 4, 5, 6, 7, 8] [] rfl rfl (by decide) (by decide) hk1 hFc hB ht [0, 1, 2, 3, 4, 5, 6, 7, 8] rfl (by decide)
        clear hB hk1 hFc hPc hDc hP hD hS hz1 hvm ht t
        obtain ⟨hP1, hD1⟩ := hJ
        generalize H1 = H at hP1 hS1 ⊢
        have hP : va_P (dC, dI) vwCl [(m0, .inr (8, mdL AM (upd g 12 2))), (AM 0, .inl (cY 0, 72, .inl tb)), (AM 2, .inl (cY 0, 22, .inl sA)), (AM 3, .inl (cY 0, 22, .inl rd)), (AM 4, .inl (cY 0, 110, .inl kp)), (AM 5, .inl (cY 0, 8414, .inl td)), (AM 6, .inl (cY 0, 2, .inl wn)), (AM 13, .inl (cY 0, 4, .inl rw)), (AM 14, .inl (cY 0, 4, .inl br))] H := hP1
        have hD : va_D A [(m0, .inr (8, mdL AM (upd g 12 2))), (AM 0, .inl (cY 0, 72, .inl tb)), (AM 2, .inl (cY 0, 22, .inl sA)), (AM 3, .inl (cY 0, 22, .inl rd)), (AM 4, .inl (cY 0, 110, .inl kp)), (AM 5, .inl (cY 0, 8414, .inl td)), (AM 6, .inl (cY 0, 2, .inl wn)), (AM 13, .inl (cY 0, 4, .inl rw)), (AM 14, .inl (cY 0, 4, .inl br))] := hD1
        have hS := hS1
        clear hP1 hD1 hS1
        refine lv_if_ne (tgt := 41) hx hb dX8_cancel_36 (by decide) (fun c_36 => ?_) (fun c_36 => ?_)
        · exact absurd (by decide) c_36
        refine lv_iconst (v := 0) hx hb dX8_cancel_39 (by decide) ?_
        have eo_37 : (X8_cancel_r g tb into move) = 0 := by rw [X8_cancel_r]; simp only [eq_false c_3, eq_false c_13, eq_false c_14, ↓reduceIte]
        have eo_38 : (X8_cancel_w0 g into move) = (upd g 12 2) := by rw [X8_cancel_w0]; simp only [eq_false c_3, eq_false c_13, eq_false c_14, ↓reduceIte]
        have eo_39 : (X8_cancel_w1 g tb into is_ move) = tb := by rw [X8_cancel_w1]; simp only [eq_false c_3, eq_false c_13, eq_false c_14, ↓reduceIte]
        have hP9 : va_P (dC, dI) vwCl [(m0, .inr (8, mdL AM (X8_cancel_w0 g into move))), (AM 0, .inl (cY 0, 72, .inl (X8_cancel_w1 g tb into is_ move))), (AM 2, .inl (cY 0, 22, .inl sA)), (AM 3, .inl (cY 0, 22, .inl rd)), (AM 4, .inl (cY 0, 110, .inl kp)), (AM 5, .inl (cY 0, 8414, .inl td)), (AM 6, .inl (cY 0, 2, .inl wn)), (AM 13, .inl (cY 0, 4, .inl rw)), (AM 14, .inl (cY 0, 4, .inl br))] H := by simp only [eo_38, eo_39]; exact hP
        have hD9 : va_D A [(m0, .inr (8, mdL AM (X8_cancel_w0 g into move))), (AM 0, .inl (cY 0, 72, .inl (X8_cancel_w1 g tb into is_ move))), (AM 2, .inl (cY 0, 22, .inl sA)), (AM 3, .inl (cY 0, 22, .inl rd)), (AM 4, .inl (cY 0, 110, .inl kp)), (AM 5, .inl (cY 0, 8414, .inl td)), (AM 6, .inl (cY 0, 2, .inl wn)), (AM 13, .inl (cY 0, 4, .inl rw)), (AM 14, .inl (cY 0, 4, .inl br))] := by simp only [eo_38, eo_39]; exact hD
        exact W.zret (v := 0) (ty := .boolean) hx hb hr rfl (fun t ht hW => ⟨⟨_, (), rfl, ⟨eo_37.symm, (by decide)⟩, wPost_of hP9 hD9 ht⟩, hS.F ht⟩) hS.2.2 dX8_cancel_40
    · refine lv_iconst (v := 1) hx hb dX8_cancel_17 (by decide) ?_
      refine lv_goto (tgt := 33) hx hb dX8_cancel_18 (by decide) ?_
      have hPc := hP.sub (ws' := [(m0, .inr (8, mdL AM g)), (AM 0, .inl (cY 0, 72, .inl tb)), (AM 2, .inl (cY 0, 22, .inl sA)), (AM 3, .inl (cY 0, 22, .inl rd)), (AM 4, .inl (cY 0, 110, .inl kp)), (AM 5, .inl (cY 0, 8414, .inl td)), (AM 6, .inl (cY 0, 2, .inl wn)), (AM 13, .inl (cY 0, 4, .inl rw)), (AM 14, .inl (cY 0, 4, .inl br))]) [0, 1, 2, 3, 4, 5, 6, 7, 8] rfl
      have hDc := hD.sub (ws' := [(m0, .inr (8, mdL AM g)), (AM 0, .inl (cY 0, 72, .inl tb)), (AM 2, .inl (cY 0, 22, .inl sA)), (AM 3, .inl (cY 0, 22, .inl rd)), (AM 4, .inl (cY 0, 110, .inl kp)), (AM 5, .inl (cY 0, 8414, .inl td)), (AM 6, .inl (cY 0, 2, .inl wn)), (AM 13, .inl (cY 0, 4, .inl rw)), (AM 14, .inl (cY 0, 4, .inl br))]) [0, 1, 2, 3, 4, 5, 6, 7, 8] (by decide) rfl
      have hFc := va_free (wc := [(m0, .inr (8, mdL AM g)), (AM 0, .inl (cY 0, 72, .inl tb)), (AM 2, .inl (cY 0, 22, .inl sA)), (AM 3, .inl (cY 0, 22, .inl rd)), (AM 4, .inl (cY 0, 110, .inl kp)), (AM 5, .inl (cY 0, 8414, .inl td)), (AM 6, .inl (cY 0, 2, .inl wn)), (AM 13, .inl (cY 0, 4, .inl rw)), (AM 14, .inl (cY 0, 4, .inl br))]) hD hS hA [0, 1, 2, 3, 4, 5, 6, 7, 8] rfl
      refine va_calli (va_runV (As := [.int 1]) (rest := []) ⟨hx, hb, hml, hown, hts⟩ (c_X8_isFine l dC dI cY m0 AM g tb sA rd kp td wn rw br 1 s.heap.size) (cwV 1 hts gX8_cancel_X8_isFine rfl rfl rfl (by decide +kernel) ⟨Nat.le_of_ble_eq_true rfl, Nat.le_of_ble_eq_true rfl⟩) ⟨blindW, va_recv hK hPc (ci := 8) (q0 := 0) rfl rfl, fun U hU hW => ⟨rfl, wPre_of hPc hK hN hDc U hU hW⟩⟩ rfl rfl hl.1 rfl (lv_room (Nat.le_of_ble_eq_true rfl)) dX8_cancel_33 ⟨Nat.zero_le _, Nat.zero_le _⟩) hS (fun q _ h => hFc q h) hFc (fun r_40 u t H1 locs ht hvm hw hB hz1 hk1 hS1 => ?_)
      obtain ⟨hw, hb_41⟩ := hw
      subst hw
      refine lv_topi (fun x_42 ex_42 => ?_)
      obtain rfl : x_42 = 0 := ex_42.trans (by decide)
      have hJ := wJoin (wr := []) (w1 := [(m0, .inr (8, mdL AM (upd g 12 1))), (AM 0, .inl (cY 0, 72, .inl tb)), (AM 2, .inl (cY 0, 22, .inl sA)), (AM 3, .inl (cY 0, 22, .inl rd)), (AM 4, .inl (cY 0, 110, .inl kp)), (AM 5, .inl (cY 0, 8414, .inl td)), (AM 6, .inl (cY 0, 2, .inl wn)), (AM 13, .inl (cY 0, 4, .inl rw)), (AM 14, .inl (cY 0, 4, .inl br))]) (wn := [(m0, .inr (8, mdL AM (upd g 12 1))), (AM 0, .inl (cY 0, 72, .inl tb)), (AM 2, .inl (cY 0, 22, .inl sA)), (AM 3, .inl (cY 0, 22, .inl rd)), (AM 4, .inl (cY 0, 110, .inl kp)), (AM 5, .inl (cY 0, 8414, .inl td)), (AM 6, .inl (cY 0, 2, .inl wn)), (AM 13, .inl (cY 0, 4, .inl rw)), (AM 14, .inl (cY 0, 4, .inl br))]) hP hD [0, 1, 2, 3, 4, 5, 6, 7, 8] [] rfl rfl (by decide) (by decide) hk1 hFc hB ht [0, 1, 2, 3, 4, 5, 6, 7, 8] rfl (by decide)
      clear hB hk1 hFc hPc hDc hP hD hS hz1 hvm ht t
      obtain ⟨hP1, hD1⟩ := hJ
      generalize H1 = H at hP1 hS1 ⊢
      have hP : va_P (dC, dI) vwCl [(m0, .inr (8, mdL AM (upd g 12 1))), (AM 0, .inl (cY 0, 72, .inl tb)), (AM 2, .inl (cY 0, 22, .inl sA)), (AM 3, .inl (cY 0, 22, .inl rd)), (AM 4, .inl (cY 0, 110, .inl kp)), (AM 5, .inl (cY 0, 8414, .inl td)), (AM 6, .inl (cY 0, 2, .inl wn)), (AM 13, .inl (cY 0, 4, .inl rw)), (AM 14, .inl (cY 0, 4, .inl br))] H := hP1
      have hD : va_D A [(m0, .inr (8, mdL AM (upd g 12 1))), (AM 0, .inl (cY 0, 72, .inl tb)), (AM 2, .inl (cY 0, 22, .inl sA)), (AM 3, .inl (cY 0, 22, .inl rd)), (AM 4, .inl (cY 0, 110, .inl kp)), (AM 5, .inl (cY 0, 8414, .inl td)), (AM 6, .inl (cY 0, 2, .inl wn)), (AM 13, .inl (cY 0, 4, .inl rw)), (AM 14, .inl (cY 0, 4, .inl br))] := hD1
      have hS := hS1
      clear hP1 hD1 hS1
      refine lv_if_ne (tgt := 41) hx hb dX8_cancel_36 (by decide) (fun c_43 => ?_) (fun c_43 => ?_)
      · exact absurd (by decide) c_43
      refine lv_iconst (v := 0) hx hb dX8_cancel_39 (by decide) ?_
      have eo_44 : (X8_cancel_r g tb into move) = 0 := by rw [X8_cancel_r]; simp only [eq_false c_3, eq_true c_13, ↓reduceIte]
      have eo_45 : (X8_cancel_w0 g into move) = (upd g 12 1) := by rw [X8_cancel_w0]; simp only [eq_false c_3, eq_true c_13, ↓reduceIte]
      have eo_46 : (X8_cancel_w1 g tb into is_ move) = tb := by rw [X8_cancel_w1]; simp only [eq_false c_3, eq_true c_13, ↓reduceIte]
      have hP9 : va_P (dC, dI) vwCl [(m0, .inr (8, mdL AM (X8_cancel_w0 g into move))), (AM 0, .inl (cY 0, 72, .inl (X8_cancel_w1 g tb into is_ move))), (AM 2, .inl (cY 0, 22, .inl sA)), (AM 3, .inl (cY 0, 22, .inl rd)), (AM 4, .inl (cY 0, 110, .inl kp)), (AM 5, .inl (cY 0, 8414, .inl td)), (AM 6, .inl (cY 0, 2, .inl wn)), (AM 13, .inl (cY 0, 4, .inl rw)), (AM 14, .inl (cY 0, 4, .inl br))] H := by simp only [eo_45, eo_46]; exact hP
      have hD9 : va_D A [(m0, .inr (8, mdL AM (X8_cancel_w0 g into move))), (AM 0, .inl (cY 0, 72, .inl (X8_cancel_w1 g tb into is_ move))), (AM 2, .inl (cY 0, 22, .inl sA)), (AM 3, .inl (cY 0, 22, .inl rd)), (AM 4, .inl (cY 0, 110, .inl kp)), (AM 5, .inl (cY 0, 8414, .inl td)), (AM 6, .inl (cY 0, 2, .inl wn)), (AM 13, .inl (cY 0, 4, .inl rw)), (AM 14, .inl (cY 0, 4, .inl br))] := by simp only [eo_45, eo_46]; exact hD
      exact W.zret (v := 0) (ty := .boolean) hx hb hr rfl (fun t ht hW => ⟨⟨_, (), rfl, ⟨eo_44.symm, (by decide)⟩, wPost_of hP9 hD9 ht⟩, hS.F ht⟩) hS.2.2 dX8_cancel_40
theorem inw_X8_of_X8 : ∀ w ∈ u_ws RX8 TX8 17, w ∈ wsX8_of := fun _ h => List.mem_cons_of_mem _ (List.mem_append_right _ h)
def X8_of_r (rd : Nat → Int32) (wn : Nat → Int32) (figure : Int32) (what : Int32) : Int32 := (if (X8_in_r 1 0 figure) = 0 then 0 else (if (X8_in_r 7 0 what) = 0 then 0 else (if what = 7 then (wn figure.toNatClampNeg) else (rd ((11 * figure) + what).toNatClampNeg))))
def X8_of_w0 (g : Nat → Int32) (figure : Int32) (what : Int32) : Nat → Int32 := (if (X8_in_r 1 0 figure) = 0 then (upd g 12 1) else (if (X8_in_r 7 0 what) = 0 then (upd g 12 2) else (upd g 12 0)))
set_option maxHeartbeats 4000000 in
set_option maxRecDepth 100000 in
theorem c_X8_of (l : Launch) (dC : Nat → ClassId) (dI : Nat → Nat → Nat) (cY : Nat → ClassId) (m0 : Nat) (AM : Nat → Nat) (g : Nat → Int32) (tb : Nat → Int32) (sA : Nat → Int32) (rd : Nat → Int32) (kp : Nat → Int32) (td : Nat → Int32) (wn : Nat → Int32) (rw : Nat → Int32) (br : Nat → Int32) (figure : Int32) (what : Int32)  (sz : Nat) : Met l yX8_of wsX8_of ({ frames := 1, cells := 0, slots := 0, locals := 22 } : Room) (va_Pc [.ref m0, .int figure, .int what] (wPre (dC, dI) (tyL cY) [(m0, .inr (8, mdL AM g)), (AM 0, .inl (cY 0, 72, .inl tb)), (AM 2, .inl (cY 0, 22, .inl sA)), (AM 3, .inl (cY 0, 22, .inl rd)), (AM 4, .inl (cY 0, 110, .inl kp)), (AM 5, .inl (cY 0, 8414, .inl td)), (AM 6, .inl (cY 0, 2, .inl wn)), (AM 13, .inl (cY 0, 4, .inl rw)), (AM 14, .inl (cY 0, 4, .inl br))] sz)) (va_Qi (fun (r : Int32) (_ : Unit) => r = (X8_of_r rd wn figure what)) (wPost (dC, dI) [(m0, .inr (8, mdL AM (X8_of_w0 g figure what))), (AM 0, .inl (cY 0, 72, .inl tb)), (AM 2, .inl (cY 0, 22, .inl sA)), (AM 3, .inl (cY 0, 22, .inl rd)), (AM 4, .inl (cY 0, 110, .inl kp)), (AM 5, .inl (cY 0, 8414, .inl td)), (AM 6, .inl (cY 0, 2, .inl wn)), (AM 13, .inl (cY 0, 4, .inl rw)), (AM 14, .inl (cY 0, 4, .inl br))] (va_A [(m0, .inr (8, mdL AM g)), (AM 0, .inl (cY 0, 72, .inl tb)), (AM 2, .inl (cY 0, 22, .inl sA)), (AM 3, .inl (cY 0, 22, .inl rd)), (AM 4, .inl (cY 0, 110, .inl kp)), (AM 5, .inl (cY 0, 8414, .inl td)), (AM 6, .inl (cY 0, 2, .inl wn)), (AM 13, .inl (cY 0, 4, .inl rw)), (AM 14, .inl (cY 0, 4, .inl br))] sz)) (va_A [(m0, .inr (8, mdL AM g)), (AM 0, .inl (cY 0, 72, .inl tb)), (AM 2, .inl (cY 0, 22, .inl sA)), (AM 3, .inl (cY 0, 22, .inl rd)), (AM 4, .inl (cY 0, 110, .inl kp)), (AM 5, .inl (cY 0, 8414, .inl td)), (AM 6, .inl (cY 0, 2, .inl wn)), (AM 13, .inl (cY 0, 4, .inl rw)), (AM 14, .inl (cY 0, 4, .inl br))] sz)) 0 0 (va_A [(m0, .inr (8, mdL AM g)), (AM 0, .inl (cY 0, 72, .inl tb)), (AM 2, .inl (cY 0, 22, .inl sA)), (AM 3, .inl (cY 0, 22, .inl rd)), (AM 4, .inl (cY 0, 110, .inl kp)), (AM 5, .inl (cY 0, 8414, .inl td)), (AM 6, .inl (cY 0, 2, .inl wn)), (AM 13, .inl (cY 0, 4, .inl rw)), (AM 14, .inl (cY 0, 4, .inl br))] sz) := by
  refine Met.ofW (cc := cX8_of) (maxL := 3) (ret := (some .int)) (by decide) rfl ?_
  intro p e s m args below meth c s₁ B hml hv
  obtain ⟨rfl, hsz, hP, hK, hN, hD0⟩ := hv
  have hx := B.exec
  have hb := B.bytes
  have hr := B.returns
  have hts := atoms_spec (ws := wsX8_of) B.pre
  have hown : s.vm.findClass RX8 = some m.cls := findClass_of_methodNamed B.named
  have hlocks := B.notSynchronized
  subst hsz
  have hD := hD0.self (sz := s.heap.size)
  generalize hAe : va_A [(m0, .inr (8, mdL AM g)), (AM 0, .inl (cY 0, 72, .inl tb)), (AM 2, .inl (cY 0, 22, .inl sA)), (AM 3, .inl (cY 0, 22, .inl rd)), (AM 4, .inl (cY 0, 110, .inl kp)), (AM 5, .inl (cY 0, 8414, .inl td)), (AM 6, .inl (cY 0, 2, .inl wn)), (AM 13, .inl (cY 0, 4, .inl rw)), (AM 14, .inl (cY 0, 4, .inl br))] s.heap.size = A at hD ⊢
  have hA : ∀ q : Nat, s.heap.size ≤ q → A q := fun q h => by rw [← hAe]; exact Or.inr h
  have hS : va_S A s.heap s.heap [] := va_S.rf
  have hP : va_P (dC, dI) vwCl [(m0, .inr (8, mdL AM g)), (AM 0, .inl (cY 0, 72, .inl tb)), (AM 2, .inl (cY 0, 22, .inl sA)), (AM 3, .inl (cY 0, 22, .inl rd)), (AM 4, .inl (cY 0, 110, .inl kp)), (AM 5, .inl (cY 0, 8414, .inl td)), (AM 6, .inl (cY 0, 2, .inl wn)), (AM 13, .inl (cY 0, 4, .inl rw)), (AM 14, .inl (cY 0, 4, .inl br))] s.heap := hP
  have hl := lv_entry ([.ref m0, .int figure, .int what]) (n := 3) (Nat.le_of_ble_eq_true rfl)
  rw [lg_entry_eq]
  generalize (lg_sl ([.ref m0, .int figure, .int what]) ++ List.replicate (3 - (lg_sl ([.ref m0, .int figure, .int what])).length) Slot.unset).toArray = ls at hl ⊢
  have hl : lv_has ls 3 [(0, .ref m0), (1, .int figure), (2, .int what)] := hl
  refine lv_aload_n hx hb dX8_of_0 rfl (lv_at hl 0 rfl) ?_
  refine lv_iload_n hx hb dX8_of_1 rfl (lv_at hl 1 rfl) ?_
  refine lv_iconst (v := 0) hx hb dX8_of_2 (by decide) ?_
  refine lv_iconst (v := 1) hx hb dX8_of_3 (by decide) ?_
  have hPc := hP.sub (ws' := []) [] rfl
  refine vp_callSi (W.runS (As := [.int figure, .int 0, .int 1]) (rest := [.ref m0]) ⟨hx, hb, hml, hown, hts⟩ (c_X8_in l dC dI cY figure 0 1) (va_cwS 3 hts gX8_of_X8_in rfl rfl rfl (by decide +kernel) ⟨Nat.le_of_ble_eq_true rfl, Nat.le_of_ble_eq_true rfl⟩) ⟨blindR, fun U hU hW => ⟨rfl, rPre_of hPc hK hN U hU hW⟩⟩ rfl rfl hl.1 rfl (lv_room (Nat.le_of_ble_eq_true rfl)) dX8_of_4 ⟨Nat.zero_le _, Nat.zero_le _⟩) (fun r_1 hw => ?_)
  obtain ⟨hw, hb_2⟩ := hw
  subst hw
  refine lv_if_ne (tgt := 14) hx hb dX8_of_7 (by decide) (fun c_3 => ?_) (fun c_3 => ?_)
  · refine lv_iload_n hx hb dX8_of_14 rfl (lv_at hl 2 rfl) ?_
    refine lv_iconst (v := 0) hx hb dX8_of_15 (by decide) ?_
    refine lv_bipush (v := 7) hx hb dX8_of_16 (by decide) ?_
    have hPc := hP.sub (ws' := []) [] rfl
    refine vp_callSi (W.runS (As := [.int what, .int 0, .int 7]) (rest := [.ref m0]) ⟨hx, hb, hml, hown, hts⟩ (c_X8_in l dC dI cY what 0 7) (va_cwS 3 hts gX8_of_X8_in rfl rfl rfl (by decide +kernel) ⟨Nat.le_of_ble_eq_true rfl, Nat.le_of_ble_eq_true rfl⟩) ⟨blindR, fun U hU hW => ⟨rfl, rPre_of hPc hK hN U hU hW⟩⟩ rfl rfl hl.1 rfl (lv_room (Nat.le_of_ble_eq_true rfl)) dX8_of_18 ⟨Nat.zero_le _, Nat.zero_le _⟩) (fun r_4 hw => ?_)
    obtain ⟨hw, hb_5⟩ := hw
    subst hw
    refine lv_if_eq (tgt := 28) hx hb dX8_of_21 (by decide) (fun c_6 => ?_) (fun c_6 => ?_)
    · refine lv_iconst (v := 2) hx hb dX8_of_28 (by decide) ?_
      have hPc := hP.sub (ws' := [(m0, .inr (8, mdL AM g)), (AM 0, .inl (cY 0, 72, .inl tb)), (AM 2, .inl (cY 0, 22, .inl sA)), (AM 3, .inl (cY 0, 22, .inl rd)), (AM 4, .inl (cY 0, 110, .inl kp)), (AM 5, .inl (cY 0, 8414, .inl td)), (AM 6, .inl (cY 0, 2, .inl wn)), (AM 13, .inl (cY 0, 4, .inl rw)), (AM 14, .inl (cY 0, 4, .inl br))]) [0, 1, 2, 3, 4, 5, 6, 7, 8] rfl
      have hDc := hD.sub (ws' := [(m0, .inr (8, mdL AM g)), (AM 0, .inl (cY 0, 72, .inl tb)), (AM 2, .inl (cY 0, 22, .inl sA)), (AM 3, .inl (cY 0, 22, .inl rd)), (AM 4, .inl (cY 0, 110, .inl kp)), (AM 5, .inl (cY 0, 8414, .inl td)), (AM 6, .inl (cY 0, 2, .inl wn)), (AM 13, .inl (cY 0, 4, .inl rw)), (AM 14, .inl (cY 0, 4, .inl br))]) [0, 1, 2, 3, 4, 5, 6, 7, 8] (by decide) rfl
      have hFc := va_free (wc := [(m0, .inr (8, mdL AM g)), (AM 0, .inl (cY 0, 72, .inl tb)), (AM 2, .inl (cY 0, 22, .inl sA)), (AM 3, .inl (cY 0, 22, .inl rd)), (AM 4, .inl (cY 0, 110, .inl kp)), (AM 5, .inl (cY 0, 8414, .inl td)), (AM 6, .inl (cY 0, 2, .inl wn)), (AM 13, .inl (cY 0, 4, .inl rw)), (AM 14, .inl (cY 0, 4, .inl br))]) hD hS hA [0, 1, 2, 3, 4, 5, 6, 7, 8] rfl
      refine va_calli (va_runV (As := [.int 2]) (rest := []) ⟨hx, hb, hml, hown, hts⟩ (c_X8_isFine l dC dI cY m0 AM g tb sA rd kp td wn rw br 2 s.heap.size) (cwV 1 hts gX8_of_X8_isFine rfl rfl rfl (by decide +kernel) ⟨Nat.le_of_ble_eq_true rfl, Nat.le_of_ble_eq_true rfl⟩) ⟨blindW, va_recv hK hPc (ci := 8) (q0 := 0) rfl rfl, fun U hU hW => ⟨rfl, wPre_of hPc hK hN hDc U hU hW⟩⟩ rfl rfl hl.1 rfl (lv_room (Nat.le_of_ble_eq_true rfl)) dX8_of_29 ⟨Nat.zero_le _, Nat.zero_le _⟩) hS (fun q _ h => hFc q h) hFc (fun r_7 u t H1 locs ht hvm hw hB hz1 hk1 hS1 => ?_)
      obtain ⟨hw, hb_8⟩ := hw
      subst hw
      refine lv_topi (fun x_9 ex_9 => ?_)
      obtain rfl : x_9 = 0 := ex_9.trans (by decide)
      have hJ := wJoin (wr := []) (w1 := [(m0, .inr (8, mdL AM (upd g 12 2))), (AM 0, .inl (cY 0, 72, .inl tb)), (AM 2, .inl (cY 0, 22, .inl sA)), (AM 3, .inl (cY 0, 22, .inl rd)), (AM 4, .inl (cY 0, 110, .inl kp)), (AM 5, .inl (cY 0, 8414, .inl td)), (AM 6, .inl (cY 0, 2, .inl wn)), (AM 13, .inl (cY 0, 4, .inl rw)), (AM 14, .inl (cY 0, 4, .inl br))]) (wn := [(m0, .inr (8, mdL AM (upd g 12 2))), (AM 0, .inl (cY 0, 72, .inl tb)), (AM 2, .inl (cY 0, 22, .inl sA)), (AM 3, .inl (cY 0, 22, .inl rd)), (AM 4, .inl (cY 0, 110, .inl kp)), (AM 5, .inl (cY 0, 8414, .inl td)), (AM 6, .inl (cY 0, 2, .inl wn)), (AM 13, .inl (cY 0, 4, .inl rw)), (AM 14, .inl (cY 0, 4, .inl br))]) hP hD [0, 1, 2, 3, 4, 5, 6, 7, 8] [] rfl rfl (by decide) (by decide) hk1 hFc hB ht [0, 1, 2, 3, 4, 5, 6, 7, 8] rfl (by decide)
      clear hB hk1 hFc hPc hDc hP hD hS hz1 hvm ht t
      obtain ⟨hP1, hD1⟩ := hJ
      generalize H1 = H at hP1 hS1 ⊢
      have hP : va_P (dC, dI) vwCl [(m0, .inr (8, mdL AM (upd g 12 2))), (AM 0, .inl (cY 0, 72, .inl tb)), (AM 2, .inl (cY 0, 22, .inl sA)), (AM 3, .inl (cY 0, 22, .inl rd)), (AM 4, .inl (cY 0, 110, .inl kp)), (AM 5, .inl (cY 0, 8414, .inl td)), (AM 6, .inl (cY 0, 2, .inl wn)), (AM 13, .inl (cY 0, 4, .inl rw)), (AM 14, .inl (cY 0, 4, .inl br))] H := hP1
      have hD : va_D A [(m0, .inr (8, mdL AM (upd g 12 2))), (AM 0, .inl (cY 0, 72, .inl tb)), (AM 2, .inl (cY 0, 22, .inl sA)), (AM 3, .inl (cY 0, 22, .inl rd)), (AM 4, .inl (cY 0, 110, .inl kp)), (AM 5, .inl (cY 0, 8414, .inl td)), (AM 6, .inl (cY 0, 2, .inl wn)), (AM 13, .inl (cY 0, 4, .inl rw)), (AM 14, .inl (cY 0, 4, .inl br))] := hD1
      have hS := hS1
      clear hP1 hD1 hS1
      refine lv_if_ne (tgt := 37) hx hb dX8_of_32 (by decide) (fun c_10 => ?_) (fun c_10 => ?_)
      · exact absurd (by decide) c_10
      refine lv_iconst (v := 0) hx hb dX8_of_35 (by decide) ?_
      have eo_11 : (X8_of_r rd wn figure what) = 0 := by rw [X8_of_r]; simp only [eq_false c_3, eq_true c_6, ↓reduceIte]
      have eo_12 : (X8_of_w0 g figure what) = (upd g 12 2) := by rw [X8_of_w0]; simp only [eq_false c_3, eq_true c_6, ↓reduceIte]
      have hP9 : va_P (dC, dI) vwCl [(m0, .inr (8, mdL AM (X8_of_w0 g figure what))), (AM 0, .inl (cY 0, 72, .inl tb)), (AM 2, .inl (cY 0, 22, .inl sA)), (AM 3, .inl (cY 0, 22, .inl rd)), (AM 4, .inl (cY 0, 110, .inl kp)), (AM 5, .inl (cY 0, 8414, .inl td)), (AM 6, .inl (cY 0, 2, .inl wn)), (AM 13, .inl (cY 0, 4, .inl rw)), (AM 14, .inl (cY 0, 4, .inl br))] H := by simp only [eo_12]; exact hP
      have hD9 : va_D A [(m0, .inr (8, mdL AM (X8_of_w0 g figure what))), (AM 0, .inl (cY 0, 72, .inl tb)), (AM 2, .inl (cY 0, 22, .inl sA)), (AM 3, .inl (cY 0, 22, .inl rd)), (AM 4, .inl (cY 0, 110, .inl kp)), (AM 5, .inl (cY 0, 8414, .inl td)), (AM 6, .inl (cY 0, 2, .inl wn)), (AM 13, .inl (cY 0, 4, .inl rw)), (AM 14, .inl (cY 0, 4, .inl br))] := by simp only [eo_12]; exact hD
      exact W.iret (v := 0) hx hb hr (fun t ht hW => ⟨⟨_, (), rfl, eo_11.symm, wPost_of hP9 hD9 ht⟩, hS.F ht⟩) hS.2.2 dX8_of_36
    · refine lv_iconst (v := 0) hx hb dX8_of_24 (by decide) ?_
      refine lv_goto (tgt := 29) hx hb dX8_of_25 (by decide) ?_
      have hPc := hP.sub (ws' := [(m0, .inr (8, mdL AM g)), (AM 0, .inl (cY 0, 72, .inl tb)), (AM 2, .inl (cY 0, 22, .inl sA)), (AM 3, .inl (cY 0, 22, .inl rd)), (AM 4, .inl (cY 0, 110, .inl kp)), (AM 5, .inl (cY 0, 8414, .inl td)), (AM 6, .inl (cY 0, 2, .inl wn)), (AM 13, .inl (cY 0, 4, .inl rw)), (AM 14, .inl (cY 0, 4, .inl br))]) [0, 1, 2, 3, 4, 5, 6, 7, 8] rfl
      have hDc := hD.sub (ws' := [(m0, .inr (8, mdL AM g)), (AM 0, .inl (cY 0, 72, .inl tb)), (AM 2, .inl (cY 0, 22, .inl sA)), (AM 3, .inl (cY 0, 22, .inl rd)), (AM 4, .inl (cY 0, 110, .inl kp)), (AM 5, .inl (cY 0, 8414, .inl td)), (AM 6, .inl (cY 0, 2, .inl wn)), (AM 13, .inl (cY 0, 4, .inl rw)), (AM 14, .inl (cY 0, 4, .inl br))]) [0, 1, 2, 3, 4, 5, 6, 7, 8] (by decide) rfl
      have hFc := va_free (wc := [(m0, .inr (8, mdL AM g)), (AM 0, .inl (cY 0, 72, .inl tb)), (AM 2, .inl (cY 0, 22, .inl sA)), (AM 3, .inl (cY 0, 22, .inl rd)), (AM 4, .inl (cY 0, 110, .inl kp)), (AM 5, .inl (cY 0, 8414, .inl td)), (AM 6, .inl (cY 0, 2, .inl wn)), (AM 13, .inl (cY 0, 4, .inl rw)), (AM 14, .inl (cY 0, 4, .inl br))]) hD hS hA [0, 1, 2, 3, 4, 5, 6, 7, 8] rfl
      refine va_calli (va_runV (As := [.int 0]) (rest := []) ⟨hx, hb, hml, hown, hts⟩ (c_X8_isFine l dC dI cY m0 AM g tb sA rd kp td wn rw br 0 s.heap.size) (cwV 1 hts gX8_of_X8_isFine rfl rfl rfl (by decide +kernel) ⟨Nat.le_of_ble_eq_true rfl, Nat.le_of_ble_eq_true rfl⟩) ⟨blindW, va_recv hK hPc (ci := 8) (q0 := 0) rfl rfl, fun U hU hW => ⟨rfl, wPre_of hPc hK hN hDc U hU hW⟩⟩ rfl rfl hl.1 rfl (lv_room (Nat.le_of_ble_eq_true rfl)) dX8_of_29 ⟨Nat.zero_le _, Nat.zero_le _⟩) hS (fun q _ h => hFc q h) hFc (fun r_13 u t H1 locs ht hvm hw hB hz1 hk1 hS1 => ?_)
      obtain ⟨hw, hb_14⟩ := hw
      subst hw
      refine lv_topi (fun x_15 ex_15 => ?_)
      obtain rfl : x_15 = 1 := ex_15.trans (by decide)
      have hJ := wJoin (wr := []) (w1 := [(m0, .inr (8, mdL AM (upd g 12 0))), (AM 0, .inl (cY 0, 72, .inl tb)), (AM 2, .inl (cY 0, 22, .inl sA)), (AM 3, .inl (cY 0, 22, .inl rd)), (AM 4, .inl (cY 0, 110, .inl kp)), (AM 5, .inl (cY 0, 8414, .inl td)), (AM 6, .inl (cY 0, 2, .inl wn)), (AM 13, .inl (cY 0, 4, .inl rw)), (AM 14, .inl (cY 0, 4, .inl br))]) (wn := [(m0, .inr (8, mdL AM (upd g 12 0))), (AM 0, .inl (cY 0, 72, .inl tb)), (AM 2, .inl (cY 0, 22, .inl sA)), (AM 3, .inl (cY 0, 22, .inl rd)), (AM 4, .inl (cY 0, 110, .inl kp)), (AM 5, .inl (cY 0, 8414, .inl td)), (AM 6, .inl (cY 0, 2, .inl wn)), (AM 13, .inl (cY 0, 4, .inl rw)), (AM 14, .inl (cY 0, 4, .inl br))]) hP hD [0, 1, 2, 3, 4, 5, 6, 7, 8] [] rfl rfl (by decide) (by decide) hk1 hFc hB ht [0, 1, 2, 3, 4, 5, 6, 7, 8] rfl (by decide)
      clear hB hk1 hFc hPc hDc hP hD hS hz1 hvm ht t
      obtain ⟨hP1, hD1⟩ := hJ
      generalize H1 = H at hP1 hS1 ⊢
      have hP : va_P (dC, dI) vwCl [(m0, .inr (8, mdL AM (upd g 12 0))), (AM 0, .inl (cY 0, 72, .inl tb)), (AM 2, .inl (cY 0, 22, .inl sA)), (AM 3, .inl (cY 0, 22, .inl rd)), (AM 4, .inl (cY 0, 110, .inl kp)), (AM 5, .inl (cY 0, 8414, .inl td)), (AM 6, .inl (cY 0, 2, .inl wn)), (AM 13, .inl (cY 0, 4, .inl rw)), (AM 14, .inl (cY 0, 4, .inl br))] H := hP1
      have hD : va_D A [(m0, .inr (8, mdL AM (upd g 12 0))), (AM 0, .inl (cY 0, 72, .inl tb)), (AM 2, .inl (cY 0, 22, .inl sA)), (AM 3, .inl (cY 0, 22, .inl rd)), (AM 4, .inl (cY 0, 110, .inl kp)), (AM 5, .inl (cY 0, 8414, .inl td)), (AM 6, .inl (cY 0, 2, .inl wn)), (AM 13, .inl (cY 0, 4, .inl rw)), (AM 14, .inl (cY 0, 4, .inl br))] := hD1
      have hS := hS1
      clear hP1 hD1 hS1
      refine lv_if_ne (tgt := 37) hx hb dX8_of_32 (by decide) (fun c_16 => ?_) (fun c_16 => ?_)
      rotate_left
      · exact absurd c_16 (by decide)
      refine lv_iload_n hx hb dX8_of_37 rfl (lv_at hl 2 rfl) ?_
      refine lv_bipush (v := 7) hx hb dX8_of_38 (by decide) ?_
      refine lv_icmp_ne (tgt := 52) hx hb dX8_of_40 (by decide) (fun c_17 => ?_) (fun c_17 => ?_)
      · refine lv_aload_n hx hb dX8_of_52 rfl (lv_at hl 0 rfl) ?_
        refine va_get (D := (dC, dI)) (ci := 8) (v := .ref (AM 3)) (C := RX8) (T := TX8) (N := 17) hx hb hts inw_X8_of_X8 hown hK hP 0 rfl rfl 3 (by decide) (hts (.fieldLink RX8 16 "DuelFramesModel" "round" "[I") (List.mem_of_getElem? (i := 2) rfl)) (fun _ h9 => h9) rfl dX8_of_53 ?_
        refine lv_bipush (v := 11) hx hb dX8_of_56 (by decide) ?_
        refine lv_iload_n hx hb dX8_of_58 rfl (lv_at hl 1 rfl) ?_
        refine lv_imul hx hb dX8_of_59 ?_
        refine lv_iload_n hx hb dX8_of_60 rfl (lv_at hl 2 rfl) ?_
        refine lv_iadd hx hb dX8_of_61 ?_
        refine va_iald hx hb hK hP 3 0 rfl rfl (rd_in (in_ok (n := 1) rfl c_3) (in_ok (n := 7) rfl c_6) c_17) dX8_of_62 ?_
        refine lv_topi (fun x_18 ex_18 => ?_)
        obtain rfl : x_18 = (rd ((11 * figure) + what).toNatClampNeg) := ex_18
        have eo_19 : (X8_of_r rd wn figure what) = (rd ((11 * figure) + what).toNatClampNeg) := by rw [X8_of_r]; simp only [eq_false c_3, eq_false c_6, eq_false c_17, ↓reduceIte]
        have eo_20 : (X8_of_w0 g figure what) = (upd g 12 0) := by rw [X8_of_w0]; simp only [eq_false c_3, eq_false c_6, ↓reduceIte]
        have hP9 : va_P (dC, dI) vwCl [(m0, .inr (8, mdL AM (X8_of_w0 g figure what))), (AM 0, .inl (cY 0, 72, .inl tb)), (AM 2, .inl (cY 0, 22, .inl sA)), (AM 3, .inl (cY 0, 22, .inl rd)), (AM 4, .inl (cY 0, 110, .inl kp)), (AM 5, .inl (cY 0, 8414, .inl td)), (AM 6, .inl (cY 0, 2, .inl wn)), (AM 13, .inl (cY 0, 4, .inl rw)), (AM 14, .inl (cY 0, 4, .inl br))] H := by simp only [eo_20]; exact hP
        have hD9 : va_D A [(m0, .inr (8, mdL AM (X8_of_w0 g figure what))), (AM 0, .inl (cY 0, 72, .inl tb)), (AM 2, .inl (cY 0, 22, .inl sA)), (AM 3, .inl (cY 0, 22, .inl rd)), (AM 4, .inl (cY 0, 110, .inl kp)), (AM 5, .inl (cY 0, 8414, .inl td)), (AM 6, .inl (cY 0, 2, .inl wn)), (AM 13, .inl (cY 0, 4, .inl rw)), (AM 14, .inl (cY 0, 4, .inl br))] := by simp only [eo_20]; exact hD
        exact W.iret (v := (rd ((11 * figure) + what).toNatClampNeg)) hx hb hr (fun t ht hW => ⟨⟨_, (), rfl, eo_19.symm, wPost_of hP9 hD9 ht⟩, hS.F ht⟩) hS.2.2 dX8_of_63
      · refine lv_aload_n hx hb dX8_of_43 rfl (lv_at hl 0 rfl) ?_
        refine va_get (D := (dC, dI)) (ci := 8) (v := .ref (AM 6)) (C := RX8) (T := TX8) (N := 17) hx hb hts inw_X8_of_X8 hown hK hP 0 rfl rfl 6 (by decide) (hts (.fieldLink RX8 25 "DuelFramesModel" "won" "[I") (List.mem_of_getElem? (i := 1) rfl)) (fun _ h9 => h9) rfl dX8_of_44 ?_
        refine lv_iload_n hx hb dX8_of_47 rfl (lv_at hl 1 rfl) ?_
        refine va_iald hx hb hK hP 6 0 rfl rfl (in_ok (n := 1) rfl c_3) dX8_of_48 ?_
        refine lv_topi (fun x_21 ex_21 => ?_)
        obtain rfl : x_21 = (wn figure.toNatClampNeg) := ex_21
        refine lv_goto (tgt := 63) hx hb dX8_of_49 (by decide) ?_
        have eo_22 : (X8_of_r rd wn figure what) = (wn figure.toNatClampNeg) := by rw [X8_of_r]; simp only [eq_false c_3, eq_false c_6, eq_true c_17, ↓reduceIte]
        have eo_23 : (X8_of_w0 g figure what) = (upd g 12 0) := by rw [X8_of_w0]; simp only [eq_false c_3, eq_false c_6, ↓reduceIte]
        have hP9 : va_P (dC, dI) vwCl [(m0, .inr (8, mdL AM (X8_of_w0 g figure what))), (AM 0, .inl (cY 0, 72, .inl tb)), (AM 2, .inl (cY 0, 22, .inl sA)), (AM 3, .inl (cY 0, 22, .inl rd)), (AM 4, .inl (cY 0, 110, .inl kp)), (AM 5, .inl (cY 0, 8414, .inl td)), (AM 6, .inl (cY 0, 2, .inl wn)), (AM 13, .inl (cY 0, 4, .inl rw)), (AM 14, .inl (cY 0, 4, .inl br))] H := by simp only [eo_23]; exact hP
        have hD9 : va_D A [(m0, .inr (8, mdL AM (X8_of_w0 g figure what))), (AM 0, .inl (cY 0, 72, .inl tb)), (AM 2, .inl (cY 0, 22, .inl sA)), (AM 3, .inl (cY 0, 22, .inl rd)), (AM 4, .inl (cY 0, 110, .inl kp)), (AM 5, .inl (cY 0, 8414, .inl td)), (AM 6, .inl (cY 0, 2, .inl wn)), (AM 13, .inl (cY 0, 4, .inl rw)), (AM 14, .inl (cY 0, 4, .inl br))] := by simp only [eo_23]; exact hD
        exact W.iret (v := (wn figure.toNatClampNeg)) hx hb hr (fun t ht hW => ⟨⟨_, (), rfl, eo_22.symm, wPost_of hP9 hD9 ht⟩, hS.F ht⟩) hS.2.2 dX8_of_63
  · refine lv_iconst (v := 1) hx hb dX8_of_10 (by decide) ?_
    refine lv_goto (tgt := 29) hx hb dX8_of_11 (by decide) ?_
    have hPc := hP.sub (ws' := [(m0, .inr (8, mdL AM g)), (AM 0, .inl (cY 0, 72, .inl tb)), (AM 2, .inl (cY 0, 22, .inl sA)), (AM 3, .inl (cY 0, 22, .inl rd)), (AM 4, .inl (cY 0, 110, .inl kp)), (AM 5, .inl (cY 0, 8414, .inl td)), (AM 6, .inl (cY 0, 2, .inl wn)), (AM 13, .inl (cY 0, 4, .inl rw)), (AM 14, .inl (cY 0, 4, .inl br))]) [0, 1, 2, 3, 4, 5, 6, 7, 8] rfl
    have hDc := hD.sub (ws' := [(m0, .inr (8, mdL AM g)), (AM 0, .inl (cY 0, 72, .inl tb)), (AM 2, .inl (cY 0, 22, .inl sA)), (AM 3, .inl (cY 0, 22, .inl rd)), (AM 4, .inl (cY 0, 110, .inl kp)), (AM 5, .inl (cY 0, 8414, .inl td)), (AM 6, .inl (cY 0, 2, .inl wn)), (AM 13, .inl (cY 0, 4, .inl rw)), (AM 14, .inl (cY 0, 4, .inl br))]) [0, 1, 2, 3, 4, 5, 6, 7, 8] (by decide) rfl
    have hFc := va_free (wc := [(m0, .inr (8, mdL AM g)), (AM 0, .inl (cY 0, 72, .inl tb)), (AM 2, .inl (cY 0, 22, .inl sA)), (AM 3, .inl (cY 0, 22, .inl rd)), (AM 4, .inl (cY 0, 110, .inl kp)), (AM 5, .inl (cY 0, 8414, .inl td)), (AM 6, .inl (cY 0, 2, .inl wn)), (AM 13, .inl (cY 0, 4, .inl rw)), (AM 14, .inl (cY 0, 4, .inl br))]) hD hS hA [0, 1, 2, 3, 4, 5, 6, 7, 8] rfl
    refine va_calli (va_runV (As := [.int 1]) (rest := []) ⟨hx, hb, hml, hown, hts⟩ (c_X8_isFine l dC dI cY m0 AM g tb sA rd kp td wn rw br 1 s.heap.size) (cwV 1 hts gX8_of_X8_isFine rfl rfl rfl (by decide +kernel) ⟨Nat.le_of_ble_eq_true rfl, Nat.le_of_ble_eq_true rfl⟩) ⟨blindW, va_recv hK hPc (ci := 8) (q0 := 0) rfl rfl, fun U hU hW => ⟨rfl, wPre_of hPc hK hN hDc U hU hW⟩⟩ rfl rfl hl.1 rfl (lv_room (Nat.le_of_ble_eq_true rfl)) dX8_of_29 ⟨Nat.zero_le _, Nat.zero_le _⟩) hS (fun q _ h => hFc q h) hFc (fun r_24 u t H1 locs ht hvm hw hB hz1 hk1 hS1 => ?_)
    obtain ⟨hw, hb_25⟩ := hw
    subst hw
    refine lv_topi (fun x_26 ex_26 => ?_)
    obtain rfl : x_26 = 0 := ex_26.trans (by decide)
    have hJ := wJoin (wr := []) (w1 := [(m0, .inr (8, mdL AM (upd g 12 1))), (AM 0, .inl (cY 0, 72, .inl tb)), (AM 2, .inl (cY 0, 22, .inl sA)), (AM 3, .inl (cY 0, 22, .inl rd)), (AM 4, .inl (cY 0, 110, .inl kp)), (AM 5, .inl (cY 0, 8414, .inl td)), (AM 6, .inl (cY 0, 2, .inl wn)), (AM 13, .inl (cY 0, 4, .inl rw)), (AM 14, .inl (cY 0, 4, .inl br))]) (wn := [(m0, .inr (8, mdL AM (upd g 12 1))), (AM 0, .inl (cY 0, 72, .inl tb)), (AM 2, .inl (cY 0, 22, .inl sA)), (AM 3, .inl (cY 0, 22, .inl rd)), (AM 4, .inl (cY 0, 110, .inl kp)), (AM 5, .inl (cY 0, 8414, .inl td)), (AM 6, .inl (cY 0, 2, .inl wn)), (AM 13, .inl (cY 0, 4, .inl rw)), (AM 14, .inl (cY 0, 4, .inl br))]) hP hD [0, 1, 2, 3, 4, 5, 6, 7, 8] [] rfl rfl (by decide) (by decide) hk1 hFc hB ht [0, 1, 2, 3, 4, 5, 6, 7, 8] rfl (by decide)
    clear hB hk1 hFc hPc hDc hP hD hS hz1 hvm ht t
    obtain ⟨hP1, hD1⟩ := hJ
    generalize H1 = H at hP1 hS1 ⊢
    have hP : va_P (dC, dI) vwCl [(m0, .inr (8, mdL AM (upd g 12 1))), (AM 0, .inl (cY 0, 72, .inl tb)), (AM 2, .inl (cY 0, 22, .inl sA)), (AM 3, .inl (cY 0, 22, .inl rd)), (AM 4, .inl (cY 0, 110, .inl kp)), (AM 5, .inl (cY 0, 8414, .inl td)), (AM 6, .inl (cY 0, 2, .inl wn)), (AM 13, .inl (cY 0, 4, .inl rw)), (AM 14, .inl (cY 0, 4, .inl br))] H := hP1
    have hD : va_D A [(m0, .inr (8, mdL AM (upd g 12 1))), (AM 0, .inl (cY 0, 72, .inl tb)), (AM 2, .inl (cY 0, 22, .inl sA)), (AM 3, .inl (cY 0, 22, .inl rd)), (AM 4, .inl (cY 0, 110, .inl kp)), (AM 5, .inl (cY 0, 8414, .inl td)), (AM 6, .inl (cY 0, 2, .inl wn)), (AM 13, .inl (cY 0, 4, .inl rw)), (AM 14, .inl (cY 0, 4, .inl br))] := hD1
    have hS := hS1
    clear hP1 hD1 hS1
    refine lv_if_ne (tgt := 37) hx hb dX8_of_32 (by decide) (fun c_27 => ?_) (fun c_27 => ?_)
    · exact absurd (by decide) c_27
    refine lv_iconst (v := 0) hx hb dX8_of_35 (by decide) ?_
    have eo_28 : (X8_of_r rd wn figure what) = 0 := by rw [X8_of_r]; simp only [eq_true c_3, ↓reduceIte]
    have eo_29 : (X8_of_w0 g figure what) = (upd g 12 1) := by rw [X8_of_w0]; simp only [eq_true c_3, ↓reduceIte]
    have hP9 : va_P (dC, dI) vwCl [(m0, .inr (8, mdL AM (X8_of_w0 g figure what))), (AM 0, .inl (cY 0, 72, .inl tb)), (AM 2, .inl (cY 0, 22, .inl sA)), (AM 3, .inl (cY 0, 22, .inl rd)), (AM 4, .inl (cY 0, 110, .inl kp)), (AM 5, .inl (cY 0, 8414, .inl td)), (AM 6, .inl (cY 0, 2, .inl wn)), (AM 13, .inl (cY 0, 4, .inl rw)), (AM 14, .inl (cY 0, 4, .inl br))] H := by simp only [eo_29]; exact hP
    have hD9 : va_D A [(m0, .inr (8, mdL AM (X8_of_w0 g figure what))), (AM 0, .inl (cY 0, 72, .inl tb)), (AM 2, .inl (cY 0, 22, .inl sA)), (AM 3, .inl (cY 0, 22, .inl rd)), (AM 4, .inl (cY 0, 110, .inl kp)), (AM 5, .inl (cY 0, 8414, .inl td)), (AM 6, .inl (cY 0, 2, .inl wn)), (AM 13, .inl (cY 0, 4, .inl rw)), (AM 14, .inl (cY 0, 4, .inl br))] := by simp only [eo_29]; exact hD
    exact W.iret (v := 0) hx hb hr (fun t ht hW => ⟨⟨_, (), rfl, eo_28.symm, wPost_of hP9 hD9 ht⟩, hS.F ht⟩) hS.2.2 dX8_of_36
theorem inw_X8_again_X8 : ∀ w ∈ u_ws RX8 TX8 17, w ∈ wsX8_again := fun _ h => List.mem_cons_of_mem _ (List.mem_append_right _ h)
def X8_again_r (g : Nat → Int32) (td : Nat → Int32) (figure : Int32) (frame : Int32) (what : Int32) : Int32 := (if (X8_in_r (g 7) 0 frame) = 0 then 0 else (if (X8_in_r 1 0 figure) = 0 then 0 else (if (X8_in_r 6 0 what) = 0 then 0 else (td (((14 * frame) + (7 * figure)) + what).toNatClampNeg))))
def X8_again_w0 (g : Nat → Int32) (figure : Int32) (frame : Int32) (what : Int32) : Nat → Int32 := (if (X8_in_r (g 7) 0 frame) = 0 then (upd g 12 1) else (if (X8_in_r 1 0 figure) = 0 then (upd g 12 1) else (if (X8_in_r 6 0 what) = 0 then (upd g 12 2) else (upd g 12 0))))
set_option maxHeartbeats 4000000 in
set_option maxRecDepth 100000 in
theorem c_X8_again (l : Launch) (dC : Nat → ClassId) (dI : Nat → Nat → Nat) (cY : Nat → ClassId) (m0 : Nat) (AM : Nat → Nat) (g : Nat → Int32) (tb : Nat → Int32) (sA : Nat → Int32) (rd : Nat → Int32) (kp : Nat → Int32) (td : Nat → Int32) (wn : Nat → Int32) (rw : Nat → Int32) (br : Nat → Int32) (frame : Int32) (figure : Int32) (what : Int32) (hfr : g 7 = -1 ∨ vp_in (g 7) 601) (sz : Nat) : Met l yX8_again wsX8_again ({ frames := 1, cells := 0, slots := 0, locals := 22 } : Room) (va_Pc [.ref m0, .int frame, .int figure, .int what] (wPre (dC, dI) (tyL cY) [(m0, .inr (8, mdL AM g)), (AM 0, .inl (cY 0, 72, .inl tb)), (AM 2, .inl (cY 0, 22, .inl sA)), (AM 3, .inl (cY 0, 22, .inl rd)), (AM 4, .inl (cY 0, 110, .inl kp)), (AM 5, .inl (cY 0, 8414, .inl td)), (AM 6, .inl (cY 0, 2, .inl wn)), (AM 13, .inl (cY 0, 4, .inl rw)), (AM 14, .inl (cY 0, 4, .inl br))] sz)) (va_Qi (fun (r : Int32) (_ : Unit) => r = (X8_again_r g td figure frame what)) (wPost (dC, dI) [(m0, .inr (8, mdL AM (X8_again_w0 g figure frame what))), (AM 0, .inl (cY 0, 72, .inl tb)), (AM 2, .inl (cY 0, 22, .inl sA)), (AM 3, .inl (cY 0, 22, .inl rd)), (AM 4, .inl (cY 0, 110, .inl kp)), (AM 5, .inl (cY 0, 8414, .inl td)), (AM 6, .inl (cY 0, 2, .inl wn)), (AM 13, .inl (cY 0, 4, .inl rw)), (AM 14, .inl (cY 0, 4, .inl br))] (va_A [(m0, .inr (8, mdL AM g)), (AM 0, .inl (cY 0, 72, .inl tb)), (AM 2, .inl (cY 0, 22, .inl sA)), (AM 3, .inl (cY 0, 22, .inl rd)), (AM 4, .inl (cY 0, 110, .inl kp)), (AM 5, .inl (cY 0, 8414, .inl td)), (AM 6, .inl (cY 0, 2, .inl wn)), (AM 13, .inl (cY 0, 4, .inl rw)), (AM 14, .inl (cY 0, 4, .inl br))] sz)) (va_A [(m0, .inr (8, mdL AM g)), (AM 0, .inl (cY 0, 72, .inl tb)), (AM 2, .inl (cY 0, 22, .inl sA)), (AM 3, .inl (cY 0, 22, .inl rd)), (AM 4, .inl (cY 0, 110, .inl kp)), (AM 5, .inl (cY 0, 8414, .inl td)), (AM 6, .inl (cY 0, 2, .inl wn)), (AM 13, .inl (cY 0, 4, .inl rw)), (AM 14, .inl (cY 0, 4, .inl br))] sz)) 0 0 (va_A [(m0, .inr (8, mdL AM g)), (AM 0, .inl (cY 0, 72, .inl tb)), (AM 2, .inl (cY 0, 22, .inl sA)), (AM 3, .inl (cY 0, 22, .inl rd)), (AM 4, .inl (cY 0, 110, .inl kp)), (AM 5, .inl (cY 0, 8414, .inl td)), (AM 6, .inl (cY 0, 2, .inl wn)), (AM 13, .inl (cY 0, 4, .inl rw)), (AM 14, .inl (cY 0, 4, .inl br))] sz) := by
  refine Met.ofW (cc := cX8_again) (maxL := 4) (ret := (some .int)) (by decide) rfl ?_
  intro p e s m args below meth c s₁ B hml hv
  obtain ⟨rfl, hsz, hP, hK, hN, hD0⟩ := hv
  have hx := B.exec
  have hb := B.bytes
  have hr := B.returns
  have hts := atoms_spec (ws := wsX8_again) B.pre
  have hown : s.vm.findClass RX8 = some m.cls := findClass_of_methodNamed B.named
  have hlocks := B.notSynchronized
  subst hsz
  have hD := hD0.self (sz := s.heap.size)
  generalize hAe : va_A [(m0, .inr (8, mdL AM g)), (AM 0, .inl (cY 0, 72, .inl tb)), (AM 2, .inl (cY 0, 22, .inl sA)), (AM 3, .inl (cY 0, 22, .inl rd)), (AM 4, .inl (cY 0, 110, .inl kp)), (AM 5, .inl (cY 0, 8414, .inl td)), (AM 6, .inl (cY 0, 2, .inl wn)), (AM 13, .inl (cY 0, 4, .inl rw)), (AM 14, .inl (cY 0, 4, .inl br))] s.heap.size = A at hD ⊢
  have hA : ∀ q : Nat, s.heap.size ≤ q → A q := fun q h => by rw [← hAe]; exact Or.inr h
  have hS : va_S A s.heap s.heap [] := va_S.rf
  have hP : va_P (dC, dI) vwCl [(m0, .inr (8, mdL AM g)), (AM 0, .inl (cY 0, 72, .inl tb)), (AM 2, .inl (cY 0, 22, .inl sA)), (AM 3, .inl (cY 0, 22, .inl rd)), (AM 4, .inl (cY 0, 110, .inl kp)), (AM 5, .inl (cY 0, 8414, .inl td)), (AM 6, .inl (cY 0, 2, .inl wn)), (AM 13, .inl (cY 0, 4, .inl rw)), (AM 14, .inl (cY 0, 4, .inl br))] s.heap := hP
  have hl := lv_entry ([.ref m0, .int frame, .int figure, .int what]) (n := 4) (Nat.le_of_ble_eq_true rfl)
  rw [lg_entry_eq]
  generalize (lg_sl ([.ref m0, .int frame, .int figure, .int what]) ++ List.replicate (4 - (lg_sl ([.ref m0, .int frame, .int figure, .int what])).length) Slot.unset).toArray = ls at hl ⊢
  have hl : lv_has ls 4 [(0, .ref m0), (1, .int frame), (2, .int figure), (3, .int what)] := hl
  refine lv_aload_n hx hb dX8_again_0 rfl (lv_at hl 0 rfl) ?_
  refine lv_iload_n hx hb dX8_again_1 rfl (lv_at hl 1 rfl) ?_
  refine lv_iconst (v := 0) hx hb dX8_again_2 (by decide) ?_
  refine lv_aload_n hx hb dX8_again_3 rfl (lv_at hl 0 rfl) ?_
  refine va_get (D := (dC, dI)) (ci := 8) (v := .int (g 7)) (C := RX8) (T := TX8) (N := 17) hx hb hts inw_X8_again_X8 hown hK hP 0 rfl rfl 7 (by decide) (hts (.fieldLink RX8 28 "DuelFramesModel" "frames" "I") (List.mem_of_getElem? (i := 1) rfl)) (fun _ h9 => h9) rfl dX8_again_4 ?_
  have hPc := hP.sub (ws' := []) [] rfl
  refine vp_callSi (W.runS (As := [.int frame, .int 0, .int (g 7)]) (rest := [.ref m0]) ⟨hx, hb, hml, hown, hts⟩ (c_X8_in l dC dI cY frame 0 (g 7)) (va_cwS 3 hts gX8_again_X8_in rfl rfl rfl (by decide +kernel) ⟨Nat.le_of_ble_eq_true rfl, Nat.le_of_ble_eq_true rfl⟩) ⟨blindR, fun U hU hW => ⟨rfl, rPre_of hPc hK hN U hU hW⟩⟩ rfl rfl hl.1 rfl (lv_room (Nat.le_of_ble_eq_true rfl)) dX8_again_7 ⟨Nat.zero_le _, Nat.zero_le _⟩) (fun r_1 hw => ?_)
  obtain ⟨hw, hb_2⟩ := hw
  subst hw
  refine lv_if_eq (tgt := 22) hx hb dX8_again_10 (by decide) (fun c_3 => ?_) (fun c_3 => ?_)
  · refine lv_iconst (v := 1) hx hb dX8_again_22 (by decide) ?_
    refine lv_goto (tgt := 41) hx hb dX8_again_23 (by decide) ?_
    have hPc := hP.sub (ws' := [(m0, .inr (8, mdL AM g)), (AM 0, .inl (cY 0, 72, .inl tb)), (AM 2, .inl (cY 0, 22, .inl sA)), (AM 3, .inl (cY 0, 22, .inl rd)), (AM 4, .inl (cY 0, 110, .inl kp)), (AM 5, .inl (cY 0, 8414, .inl td)), (AM 6, .inl (cY 0, 2, .inl wn)), (AM 13, .inl (cY 0, 4, .inl rw)), (AM 14, .inl (cY 0, 4, .inl br))]) [0, 1, 2, 3, 4, 5, 6, 7, 8] rfl
    have hDc := hD.sub (ws' := [(m0, .inr (8, mdL AM g)), (AM 0, .inl (cY 0, 72, .inl tb)), (AM 2, .inl (cY 0, 22, .inl sA)), (AM 3, .inl (cY 0, 22, .inl rd)), (AM 4, .inl (cY 0, 110, .inl kp)), (AM 5, .inl (cY 0, 8414, .inl td)), (AM 6, .inl (cY 0, 2, .inl wn)), (AM 13, .inl (cY 0, 4, .inl rw)), (AM 14, .inl (cY 0, 4, .inl br))]) [0, 1, 2, 3, 4, 5, 6, 7, 8] (by decide) rfl
    have hFc := va_free (wc := [(m0, .inr (8, mdL AM g)), (AM 0, .inl (cY 0, 72, .inl tb)), (AM 2, .inl (cY 0, 22, .inl sA)), (AM 3, .inl (cY 0, 22, .inl rd)), (AM 4, .inl (cY 0, 110, .inl kp)), (AM 5, .inl (cY 0, 8414, .inl td)), (AM 6, .inl (cY 0, 2, .inl wn)), (AM 13, .inl (cY 0, 4, .inl rw)), (AM 14, .inl (cY 0, 4, .inl br))]) hD hS hA [0, 1, 2, 3, 4, 5, 6, 7, 8] rfl
    refine va_calli (va_runV (As := [.int 1]) (rest := []) ⟨hx, hb, hml, hown, hts⟩ (c_X8_isFine l dC dI cY m0 AM g tb sA rd kp td wn rw br 1 s.heap.size) (cwV 1 hts gX8_again_X8_isFine rfl rfl rfl (by decide +kernel) ⟨Nat.le_of_ble_eq_true rfl, Nat.le_of_ble_eq_true rfl⟩) ⟨blindW, va_recv hK hPc (ci := 8) (q0 := 0) rfl rfl, fun U hU hW => ⟨rfl, wPre_of hPc hK hN hDc U hU hW⟩⟩ rfl rfl hl.1 rfl (lv_room (Nat.le_of_ble_eq_true rfl)) dX8_again_41 ⟨Nat.zero_le _, Nat.zero_le _⟩) hS (fun q _ h => hFc q h) hFc (fun r_4 u t H1 locs ht hvm hw hB hz1 hk1 hS1 => ?_)
    obtain ⟨hw, hb_5⟩ := hw
    subst hw
    refine lv_topi (fun x_6 ex_6 => ?_)
    obtain rfl : x_6 = 0 := ex_6.trans (by decide)
    have hJ := wJoin (wr := []) (w1 := [(m0, .inr (8, mdL AM (upd g 12 1))), (AM 0, .inl (cY 0, 72, .inl tb)), (AM 2, .inl (cY 0, 22, .inl sA)), (AM 3, .inl (cY 0, 22, .inl rd)), (AM 4, .inl (cY 0, 110, .inl kp)), (AM 5, .inl (cY 0, 8414, .inl td)), (AM 6, .inl (cY 0, 2, .inl wn)), (AM 13, .inl (cY 0, 4, .inl rw)), (AM 14, .inl (cY 0, 4, .inl br))]) (wn := [(m0, .inr (8, mdL AM (upd g 12 1))), (AM 0, .inl (cY 0, 72, .inl tb)), (AM 2, .inl (cY 0, 22, .inl sA)), (AM 3, .inl (cY 0, 22, .inl rd)), (AM 4, .inl (cY 0, 110, .inl kp)), (AM 5, .inl (cY 0, 8414, .inl td)), (AM 6, .inl (cY 0, 2, .inl wn)), (AM 13, .inl (cY 0, 4, .inl rw)), (AM 14, .inl (cY 0, 4, .inl br))]) hP hD [0, 1, 2, 3, 4, 5, 6, 7, 8] [] rfl rfl (by decide) (by decide) hk1 hFc hB ht [0, 1, 2, 3, 4, 5, 6, 7, 8] rfl (by decide)
    clear hB hk1 hFc hPc hDc hP hD hS hz1 hvm ht t
    obtain ⟨hP1, hD1⟩ := hJ
    generalize H1 = H at hP1 hS1 ⊢
    have hP : va_P (dC, dI) vwCl [(m0, .inr (8, mdL AM (upd g 12 1))), (AM 0, .inl (cY 0, 72, .inl tb)), (AM 2, .inl (cY 0, 22, .inl sA)), (AM 3, .inl (cY 0, 22, .inl rd)), (AM 4, .inl (cY 0, 110, .inl kp)), (AM 5, .inl (cY 0, 8414, .inl td)), (AM 6, .inl (cY 0, 2, .inl wn)), (AM 13, .inl (cY 0, 4, .inl rw)), (AM 14, .inl (cY 0, 4, .inl br))] H := hP1
    have hD : va_D A [(m0, .inr (8, mdL AM (upd g 12 1))), (AM 0, .inl (cY 0, 72, .inl tb)), (AM 2, .inl (cY 0, 22, .inl sA)), (AM 3, .inl (cY 0, 22, .inl rd)), (AM 4, .inl (cY 0, 110, .inl kp)), (AM 5, .inl (cY 0, 8414, .inl td)), (AM 6, .inl (cY 0, 2, .inl wn)), (AM 13, .inl (cY 0, 4, .inl rw)), (AM 14, .inl (cY 0, 4, .inl br))] := hD1
    have hS := hS1
    clear hP1 hD1 hS1
    refine lv_if_ne (tgt := 49) hx hb dX8_again_44 (by decide) (fun c_7 => ?_) (fun c_7 => ?_)
    · exact absurd (by decide) c_7
    refine lv_iconst (v := 0) hx hb dX8_again_47 (by decide) ?_
    have eo_8 : (X8_again_r g td figure frame what) = 0 := by rw [X8_again_r]; simp only [eq_true c_3, ↓reduceIte]
    have eo_9 : (X8_again_w0 g figure frame what) = (upd g 12 1) := by rw [X8_again_w0]; simp only [eq_true c_3, ↓reduceIte]
    have hP9 : va_P (dC, dI) vwCl [(m0, .inr (8, mdL AM (X8_again_w0 g figure frame what))), (AM 0, .inl (cY 0, 72, .inl tb)), (AM 2, .inl (cY 0, 22, .inl sA)), (AM 3, .inl (cY 0, 22, .inl rd)), (AM 4, .inl (cY 0, 110, .inl kp)), (AM 5, .inl (cY 0, 8414, .inl td)), (AM 6, .inl (cY 0, 2, .inl wn)), (AM 13, .inl (cY 0, 4, .inl rw)), (AM 14, .inl (cY 0, 4, .inl br))] H := by simp only [eo_9]; exact hP
    have hD9 : va_D A [(m0, .inr (8, mdL AM (X8_again_w0 g figure frame what))), (AM 0, .inl (cY 0, 72, .inl tb)), (AM 2, .inl (cY 0, 22, .inl sA)), (AM 3, .inl (cY 0, 22, .inl rd)), (AM 4, .inl (cY 0, 110, .inl kp)), (AM 5, .inl (cY 0, 8414, .inl td)), (AM 6, .inl (cY 0, 2, .inl wn)), (AM 13, .inl (cY 0, 4, .inl rw)), (AM 14, .inl (cY 0, 4, .inl br))] := by simp only [eo_9]; exact hD
    exact W.iret (v := 0) hx hb hr (fun t ht hW => ⟨⟨_, (), rfl, eo_8.symm, wPost_of hP9 hD9 ht⟩, hS.F ht⟩) hS.2.2 dX8_again_48
  · refine lv_iload_n hx hb dX8_again_13 rfl (lv_at hl 2 rfl) ?_
    refine lv_iconst (v := 0) hx hb dX8_again_14 (by decide) ?_
    refine lv_iconst (v := 1) hx hb dX8_again_15 (by decide) ?_
    have hPc := hP.sub (ws' := []) [] rfl
    refine vp_callSi (W.runS (As := [.int figure, .int 0, .int 1]) (rest := [.ref m0]) ⟨hx, hb, hml, hown, hts⟩ (c_X8_in l dC dI cY figure 0 1) (va_cwS 3 hts gX8_again_X8_in rfl rfl rfl (by decide +kernel) ⟨Nat.le_of_ble_eq_true rfl, Nat.le_of_ble_eq_true rfl⟩) ⟨blindR, fun U hU hW => ⟨rfl, rPre_of hPc hK hN U hU hW⟩⟩ rfl rfl hl.1 rfl (lv_room (Nat.le_of_ble_eq_true rfl)) dX8_again_16 ⟨Nat.zero_le _, Nat.zero_le _⟩) (fun r_10 hw => ?_)
    obtain ⟨hw, hb_11⟩ := hw
    subst hw
    refine lv_if_ne (tgt := 26) hx hb dX8_again_19 (by decide) (fun c_12 => ?_) (fun c_12 => ?_)
    · refine lv_iload_n hx hb dX8_again_26 rfl (lv_at hl 3 rfl) ?_
      refine lv_iconst (v := 0) hx hb dX8_again_27 (by decide) ?_
      refine lv_bipush (v := 6) hx hb dX8_again_28 (by decide) ?_
      have hPc := hP.sub (ws' := []) [] rfl
      refine vp_callSi (W.runS (As := [.int what, .int 0, .int 6]) (rest := [.ref m0]) ⟨hx, hb, hml, hown, hts⟩ (c_X8_in l dC dI cY what 0 6) (va_cwS 3 hts gX8_again_X8_in rfl rfl rfl (by decide +kernel) ⟨Nat.le_of_ble_eq_true rfl, Nat.le_of_ble_eq_true rfl⟩) ⟨blindR, fun U hU hW => ⟨rfl, rPre_of hPc hK hN U hU hW⟩⟩ rfl rfl hl.1 rfl (lv_room (Nat.le_of_ble_eq_true rfl)) dX8_again_30 ⟨Nat.zero_le _, Nat.zero_le _⟩) (fun r_13 hw => ?_)
      obtain ⟨hw, hb_14⟩ := hw
      subst hw
      refine lv_if_eq (tgt := 40) hx hb dX8_again_33 (by decide) (fun c_15 => ?_) (fun c_15 => ?_)
      · refine lv_iconst (v := 2) hx hb dX8_again_40 (by decide) ?_
        have hPc := hP.sub (ws' := [(m0, .inr (8, mdL AM g)), (AM 0, .inl (cY 0, 72, .inl tb)), (AM 2, .inl (cY 0, 22, .inl sA)), (AM 3, .inl (cY 0, 22, .inl rd)), (AM 4, .inl (cY 0, 110, .inl kp)), (AM 5, .inl (cY 0, 8414, .inl td)), (AM 6, .inl (cY 0, 2, .inl wn)), (AM 13, .inl (cY 0, 4, .inl rw)), (AM 14, .inl (cY 0, 4, .inl br))]) [0, 1, 2, 3, 4, 5, 6, 7, 8] rfl
        have hDc := hD.sub (ws' := [(m0, .inr (8, mdL AM g)), (AM 0, .inl (cY 0, 72, .inl tb)), (AM 2, .inl (cY 0, 22, .inl sA)), (AM 3, .inl (cY 0, 22, .inl rd)), (AM 4, .inl (cY 0, 110, .inl kp)), (AM 5, .inl (cY 0, 8414, .inl td)), (AM 6, .inl (cY 0, 2, .inl wn)), (AM 13, .inl (cY 0, 4, .inl rw)), (AM 14, .inl (cY 0, 4, .inl br))]) [0, 1, 2, 3, 4, 5, 6, 7, 8] (by decide) rfl
        have hFc := va_free (wc := [(m0, .inr (8, mdL AM g)), (AM 0, .inl (cY 0, 72, .inl tb)), (AM 2, .inl (cY 0, 22, .inl sA)), (AM 3, .inl (cY 0, 22, .inl rd)), (AM 4, .inl (cY 0, 110, .inl kp)), (AM 5, .inl (cY 0, 8414, .inl td)), (AM 6, .inl (cY 0, 2, .inl wn)), (AM 13, .inl (cY 0, 4, .inl rw)), (AM 14, .inl (cY 0, 4, .inl br))]) hD hS hA [0, 1, 2, 3, 4, 5, 6, 7, 8] rfl
        refine va_calli (va_runV (As := [.int 2]) (rest := []) ⟨hx, hb, hml, hown, hts⟩ (c_X8_isFine l dC dI cY m0 AM g tb sA rd kp td wn rw br 2 s.heap.size) (cwV 1 hts gX8_again_X8_isFine rfl rfl rfl (by decide +kernel) ⟨Nat.le_of_ble_eq_true rfl, Nat.le_of_ble_eq_true rfl⟩) ⟨blindW, va_recv hK hPc (ci := 8) (q0 := 0) rfl rfl, fun U hU hW => ⟨rfl, wPre_of hPc hK hN hDc U hU hW⟩⟩ rfl rfl hl.1 rfl (lv_room (Nat.le_of_ble_eq_true rfl)) dX8_again_41 ⟨Nat.zero_le _, Nat.zero_le _⟩) hS (fun q _ h => hFc q h) hFc (fun r_16 u t H1 locs ht hvm hw hB hz1 hk1 hS1 => ?_)
        obtain ⟨hw, hb_17⟩ := hw
        subst hw
        refine lv_topi (fun x_18 ex_18 => ?_)
        obtain rfl : x_18 = 0 := ex_18.trans (by decide)
        have hJ := wJoin (wr := []) (w1 := [(m0, .inr (8, mdL AM (upd g 12 2))), (AM 0, .inl (cY 0, 72, .inl tb)), (AM 2, .inl (cY 0, 22, .inl sA)), (AM 3, .inl (cY 0, 22, .inl rd)), (AM 4, .inl (cY 0, 110, .inl kp)), (AM 5, .inl (cY 0, 8414, .inl td)), (AM 6, .inl (cY 0, 2, .inl wn)), (AM 13, .inl (cY 0, 4, .inl rw)), (AM 14, .inl (cY 0, 4, .inl br))]) (wn := [(m0, .inr (8, mdL AM (upd g 12 2))), (AM 0, .inl (cY 0, 72, .inl tb)), (AM 2, .inl (cY 0, 22, .inl sA)), (AM 3, .inl (cY 0, 22, .inl rd)), (AM 4, .inl (cY 0, 110, .inl kp)), (AM 5, .inl (cY 0, 8414, .inl td)), (AM 6, .inl (cY 0, 2, .inl wn)), (AM 13, .inl (cY 0, 4, .inl rw)), (AM 14, .inl (cY 0, 4, .inl br))]) hP hD [0, 1, 2, 3, 4, 5, 6, 7, 8] [] rfl rfl (by decide) (by decide) hk1 hFc hB ht [0, 1, 2, 3, 4, 5, 6, 7, 8] rfl (by decide)
        clear hB hk1 hFc hPc hDc hP hD hS hz1 hvm ht t
        obtain ⟨hP1, hD1⟩ := hJ
        generalize H1 = H at hP1 hS1 ⊢
        have hP : va_P (dC, dI) vwCl [(m0, .inr (8, mdL AM (upd g 12 2))), (AM 0, .inl (cY 0, 72, .inl tb)), (AM 2, .inl (cY 0, 22, .inl sA)), (AM 3, .inl (cY 0, 22, .inl rd)), (AM 4, .inl (cY 0, 110, .inl kp)), (AM 5, .inl (cY 0, 8414, .inl td)), (AM 6, .inl (cY 0, 2, .inl wn)), (AM 13, .inl (cY 0, 4, .inl rw)), (AM 14, .inl (cY 0, 4, .inl br))] H := hP1
        have hD : va_D A [(m0, .inr (8, mdL AM (upd g 12 2))), (AM 0, .inl (cY 0, 72, .inl tb)), (AM 2, .inl (cY 0, 22, .inl sA)), (AM 3, .inl (cY 0, 22, .inl rd)), (AM 4, .inl (cY 0, 110, .inl kp)), (AM 5, .inl (cY 0, 8414, .inl td)), (AM 6, .inl (cY 0, 2, .inl wn)), (AM 13, .inl (cY 0, 4, .inl rw)), (AM 14, .inl (cY 0, 4, .inl br))] := hD1
        have hS := hS1
        clear hP1 hD1 hS1
        refine lv_if_ne (tgt := 49) hx hb dX8_again_44 (by decide) (fun c_19 => ?_) (fun c_19 => ?_)
        · exact absurd (by decide) c_19
        refine lv_iconst (v := 0) hx hb dX8_again_47 (by decide) ?_
        have eo_20 : (X8_again_r g td figure frame what) = 0 := by rw [X8_again_r]; simp only [eq_false c_3, eq_false c_12, eq_true c_15, ↓reduceIte]
        have eo_21 : (X8_again_w0 g figure frame what) = (upd g 12 2) := by rw [X8_again_w0]; simp only [eq_false c_3, eq_false c_12, eq_true c_15, ↓reduceIte]
        have hP9 : va_P (dC, dI) vwCl [(m0, .inr (8, mdL AM (X8_again_w0 g figure frame what))), (AM 0, .inl (cY 0, 72, .inl tb)), (AM 2, .inl (cY 0, 22, .inl sA)), (AM 3, .inl (cY 0, 22, .inl rd)), (AM 4, .inl (cY 0, 110, .inl kp)), (AM 5, .inl (cY 0, 8414, .inl td)), (AM 6, .inl (cY 0, 2, .inl wn)), (AM 13, .inl (cY 0, 4, .inl rw)), (AM 14, .inl (cY 0, 4, .inl br))] H := by simp only [eo_21]; exact hP
        have hD9 : va_D A [(m0, .inr (8, mdL AM (X8_again_w0 g figure frame what))), (AM 0, .inl (cY 0, 72, .inl tb)), (AM 2, .inl (cY 0, 22, .inl sA)), (AM 3, .inl (cY 0, 22, .inl rd)), (AM 4, .inl (cY 0, 110, .inl kp)), (AM 5, .inl (cY 0, 8414, .inl td)), (AM 6, .inl (cY 0, 2, .inl wn)), (AM 13, .inl (cY 0, 4, .inl rw)), (AM 14, .inl (cY 0, 4, .inl br))] := by simp only [eo_21]; exact hD
        exact W.iret (v := 0) hx hb hr (fun t ht hW => ⟨⟨_, (), rfl, eo_20.symm, wPost_of hP9 hD9 ht⟩, hS.F ht⟩) hS.2.2 dX8_again_48
      · refine lv_iconst (v := 0) hx hb dX8_again_36 (by decide) ?_
        refine lv_goto (tgt := 41) hx hb dX8_again_37 (by decide) ?_
        have hPc := hP.sub (ws' := [(m0, .inr (8, mdL AM g)), (AM 0, .inl (cY 0, 72, .inl tb)), (AM 2, .inl (cY 0, 22, .inl sA)), (AM 3, .inl (cY 0, 22, .inl rd)), (AM 4, .inl (cY 0, 110, .inl kp)), (AM 5, .inl (cY 0, 8414, .inl td)), (AM 6, .inl (cY 0, 2, .inl wn)), (AM 13, .inl (cY 0, 4, .inl rw)), (AM 14, .inl (cY 0, 4, .inl br))]) [0, 1, 2, 3, 4, 5, 6, 7, 8] rfl
        have hDc := hD.sub (ws' := [(m0, .inr (8, mdL AM g)), (AM 0, .inl (cY 0, 72, .inl tb)), (AM 2, .inl (cY 0, 22, .inl sA)), (AM 3, .inl (cY 0, 22, .inl rd)), (AM 4, .inl (cY 0, 110, .inl kp)), (AM 5, .inl (cY 0, 8414, .inl td)), (AM 6, .inl (cY 0, 2, .inl wn)), (AM 13, .inl (cY 0, 4, .inl rw)), (AM 14, .inl (cY 0, 4, .inl br))]) [0, 1, 2, 3, 4, 5, 6, 7, 8] (by decide) rfl
        have hFc := va_free (wc := [(m0, .inr (8, mdL AM g)), (AM 0, .inl (cY 0, 72, .inl tb)), (AM 2, .inl (cY 0, 22, .inl sA)), (AM 3, .inl (cY 0, 22, .inl rd)), (AM 4, .inl (cY 0, 110, .inl kp)), (AM 5, .inl (cY 0, 8414, .inl td)), (AM 6, .inl (cY 0, 2, .inl wn)), (AM 13, .inl (cY 0, 4, .inl rw)), (AM 14, .inl (cY 0, 4, .inl br))]) hD hS hA [0, 1, 2, 3, 4, 5, 6, 7, 8] rfl
        refine va_calli (va_runV (As := [.int 0]) (rest := []) ⟨hx, hb, hml, hown, hts⟩ (c_X8_isFine l dC dI cY m0 AM g tb sA rd kp td wn rw br 0 s.heap.size) (cwV 1 hts gX8_again_X8_isFine rfl rfl rfl (by decide +kernel) ⟨Nat.le_of_ble_eq_true rfl, Nat.le_of_ble_eq_true rfl⟩) ⟨blindW, va_recv hK hPc (ci := 8) (q0 := 0) rfl rfl, fun U hU hW => ⟨rfl, wPre_of hPc hK hN hDc U hU hW⟩⟩ rfl rfl hl.1 rfl (lv_room (Nat.le_of_ble_eq_true rfl)) dX8_again_41 ⟨Nat.zero_le _, Nat.zero_le _⟩) hS (fun q _ h => hFc q h) hFc (fun r_22 u t H1 locs ht hvm hw hB hz1 hk1 hS1 => ?_)
        obtain ⟨hw, hb_23⟩ := hw
        subst hw
        refine lv_topi (fun x_24 ex_24 => ?_)
        obtain rfl : x_24 = 1 := ex_24.trans (by decide)
        have hJ := wJoin (wr := []) (w1 := [(m0, .inr (8, mdL AM (upd g 12 0))), (AM 0, .inl (cY 0, 72, .inl tb)), (AM 2, .inl (cY 0, 22, .inl sA)), (AM 3, .inl (cY 0, 22, .inl rd)), (AM 4, .inl (cY 0, 110, .inl kp)), (AM 5, .inl (cY 0, 8414, .inl td)), (AM 6, .inl (cY 0, 2, .inl wn)), (AM 13, .inl (cY 0, 4, .inl rw)), (AM 14, .inl (cY 0, 4, .inl br))]) (wn := [(m0, .inr (8, mdL AM (upd g 12 0))), (AM 0, .inl (cY 0, 72, .inl tb)), (AM 2, .inl (cY 0, 22, .inl sA)), (AM 3, .inl (cY 0, 22, .inl rd)), (AM 4, .inl (cY 0, 110, .inl kp)), (AM 5, .inl (cY 0, 8414, .inl td)), (AM 6, .inl (cY 0, 2, .inl wn)), (AM 13, .inl (cY 0, 4, .inl rw)), (AM 14, .inl (cY 0, 4, .inl br))]) hP hD [0, 1, 2, 3, 4, 5, 6, 7, 8] [] rfl rfl (by decide) (by decide) hk1 hFc hB ht [0, 1, 2, 3, 4, 5, 6, 7, 8] rfl (by decide)
        clear hB hk1 hFc hPc hDc hP hD hS hz1 hvm ht t
        obtain ⟨hP1, hD1⟩ := hJ
        generalize H1 = H at hP1 hS1 ⊢
        have hP : va_P (dC, dI) vwCl [(m0, .inr (8, mdL AM (upd g 12 0))), (AM 0, .inl (cY 0, 72, .inl tb)), (AM 2, .inl (cY 0, 22, .inl sA)), (AM 3, .inl (cY 0, 22, .inl rd)), (AM 4, .inl (cY 0, 110, .inl kp)), (AM 5, .inl (cY 0, 8414, .inl td)), (AM 6, .inl (cY 0, 2, .inl wn)), (AM 13, .inl (cY 0, 4, .inl rw)), (AM 14, .inl (cY 0, 4, .inl br))] H := hP1
        have hD : va_D A [(m0, .inr (8, mdL AM (upd g 12 0))), (AM 0, .inl (cY 0, 72, .inl tb)), (AM 2, .inl (cY 0, 22, .inl sA)), (AM 3, .inl (cY 0, 22, .inl rd)), (AM 4, .inl (cY 0, 110, .inl kp)), (AM 5, .inl (cY 0, 8414, .inl td)), (AM 6, .inl (cY 0, 2, .inl wn)), (AM 13, .inl (cY 0, 4, .inl rw)), (AM 14, .inl (cY 0, 4, .inl br))] := hD1
        have hS := hS1
        clear hP1 hD1 hS1
        refine lv_if_ne (tgt := 49) hx hb dX8_again_44 (by decide) (fun c_25 => ?_) (fun c_25 => ?_)
        rotate_left
        · exact absurd c_25 (by decide)
        refine lv_aload_n hx hb dX8_again_49 rfl (lv_at hl 0 rfl) ?_
        refine va_get (D := (dC, dI)) (ci := 8) (v := .ref (AM 5)) (C := RX8) (T := TX8) (N := 17) hx hb hts inw_X8_again_X8 hown hK hP 0 rfl rfl 5 (by decide) (hts (.fieldLink RX8 22 "DuelFramesModel" "told" "[I") (List.mem_of_getElem? (i := 2) rfl)) (fun _ h9 => h9) rfl dX8_again_50 ?_
        refine lv_bipush (v := 14) hx hb dX8_again_53 (by decide) ?_
        refine lv_iload_n hx hb dX8_again_55 rfl (lv_at hl 1 rfl) ?_
        refine lv_imul hx hb dX8_again_56 ?_
        refine lv_bipush (v := 7) hx hb dX8_again_57 (by decide) ?_
        refine lv_iload_n hx hb dX8_again_59 rfl (lv_at hl 2 rfl) ?_
        refine lv_imul hx hb dX8_again_60 ?_
        refine lv_iadd hx hb dX8_again_61 ?_
        refine lv_iload_n hx hb dX8_again_62 rfl (lv_at hl 3 rfl) ?_
        refine lv_iadd hx hb dX8_again_63 ?_
        refine va_iald hx hb hK hP 5 0 rfl rfl (ag_in (fr_ok hfr c_3) (in_ok (n := 1) rfl c_12) (in_ok (n := 6) rfl c_15)) dX8_again_64 ?_
        refine lv_topi (fun x_26 ex_26 => ?_)
        obtain rfl : x_26 = (td (((14 * frame) + (7 * figure)) + what).toNatClampNeg) := ex_26
        have eo_27 : (X8_again_r g td figure frame what) = (td (((14 * frame) + (7 * figure)) + what).toNatClampNeg) := by rw [X8_again_r]; simp only [eq_false c_3, eq_false c_12, eq_false c_15, ↓reduceIte]
        have eo_28 : (X8_again_w0 g figure frame what) = (upd g 12 0) := by rw [X8_again_w0]; simp only [eq_false c_3, eq_false c_12, eq_false c_15, ↓reduceIte]
        have hP9 : va_P (dC, dI) vwCl [(m0, .inr (8, mdL AM (X8_again_w0 g figure frame what))), (AM 0, .inl (cY 0, 72, .inl tb)), (AM 2, .inl (cY 0, 22, .inl sA)), (AM 3, .inl (cY 0, 22, .inl rd)), (AM 4, .inl (cY 0, 110, .inl kp)), (AM 5, .inl (cY 0, 8414, .inl td)), (AM 6, .inl (cY 0, 2, .inl wn)), (AM 13, .inl (cY 0, 4, .inl rw)), (AM 14, .inl (cY 0, 4, .inl br))] H := by simp only [eo_28]; exact hP
        have hD9 : va_D A [(m0, .inr (8, mdL AM (X8_again_w0 g figure frame what))), (AM 0, .inl (cY 0, 72, .inl tb)), (AM 2, .inl (cY 0, 22, .inl sA)), (AM 3, .inl (cY 0, 22, .inl rd)), (AM 4, .inl (cY 0, 110, .inl kp)), (AM 5, .inl (cY 0, 8414, .inl td)), (AM 6, .inl (cY 0, 2, .inl wn)), (AM 13, .inl (cY 0, 4, .inl rw)), (AM 14, .inl (cY 0, 4, .inl br))] := by simp only [eo_28]; exact hD
        exact W.iret (v := (td (((14 * frame) + (7 * figure)) + what).toNatClampNeg)) hx hb hr (fun t ht hW => ⟨⟨_, (), rfl, eo_27.symm, wPost_of hP9 hD9 ht⟩, hS.F ht⟩) hS.2.2 dX8_again_65
    · refine lv_iconst (v := 1) hx hb dX8_again_22 (by decide) ?_
      refine lv_goto (tgt := 41) hx hb dX8_again_23 (by decide) ?_
      have hPc := hP.sub (ws' := [(m0, .inr (8, mdL AM g)), (AM 0, .inl (cY 0, 72, .inl tb)), (AM 2, .inl (cY 0, 22, .inl sA)), (AM 3, .inl (cY 0, 22, .inl rd)), (AM 4, .inl (cY 0, 110, .inl kp)), (AM 5, .inl (cY 0, 8414, .inl td)), (AM 6, .inl (cY 0, 2, .inl wn)), (AM 13, .inl (cY 0, 4, .inl rw)), (AM 14, .inl (cY 0, 4, .inl br))]) [0, 1, 2, 3, 4, 5, 6, 7, 8] rfl
      have hDc := hD.sub (ws' := [(m0, .inr (8, mdL AM g)), (AM 0, .inl (cY 0, 72, .inl tb)), (AM 2, .inl (cY 0, 22, .inl sA)), (AM 3, .inl (cY 0, 22, .inl rd)), (AM 4, .inl (cY 0, 110, .inl kp)), (AM 5, .inl (cY 0, 8414, .inl td)), (AM 6, .inl (cY 0, 2, .inl wn)), (AM 13, .inl (cY 0, 4, .inl rw)), (AM 14, .inl (cY 0, 4, .inl br))]) [0, 1, 2, 3, 4, 5, 6, 7, 8] (by decide) rfl
      have hFc := va_free (wc := [(m0, .inr (8, mdL AM g)), (AM 0, .inl (cY 0, 72, .inl tb)), (AM 2, .inl (cY 0, 22, .inl sA)), (AM 3, .inl (cY 0, 22, .inl rd)), (AM 4, .inl (cY 0, 110, .inl kp)), (AM 5, .inl (cY 0, 8414, .inl td)), (AM 6, .inl (cY 0, 2, .inl wn)), (AM 13, .inl (cY 0, 4, .inl rw)), (AM 14, .inl (cY 0, 4, .inl br))]) hD hS hA [0, 1, 2, 3, 4, 5, 6, 7, 8] rfl
      refine va_calli (va_runV (As := [.int 1]) (rest := []) ⟨hx, hb, hml, hown, hts⟩ (c_X8_isFine l dC dI cY m0 AM g tb sA rd kp td wn rw br 1 s.heap.size) (cwV 1 hts gX8_again_X8_isFine rfl rfl rfl (by decide +kernel) ⟨Nat.le_of_ble_eq_true rfl, Nat.le_of_ble_eq_true rfl⟩) ⟨blindW, va_recv hK hPc (ci := 8) (q0 := 0) rfl rfl, fun U hU hW => ⟨rfl, wPre_of hPc hK hN hDc U hU hW⟩⟩ rfl rfl hl.1 rfl (lv_room (Nat.le_of_ble_eq_true rfl)) dX8_again_41 ⟨Nat.zero_le _, Nat.zero_le _⟩) hS (fun q _ h => hFc q h) hFc (fun r_29 u t H1 locs ht hvm hw hB hz1 hk1 hS1 => ?_)
      obtain ⟨hw, hb_30⟩ := hw
      subst hw
      refine lv_topi (fun x_31 ex_31 => ?_)
      obtain rfl : x_31 = 0 := ex_31.trans (by decide)
      have hJ := wJoin (wr := []) (w1 := [(m0, .inr (8, mdL AM (upd g 12 1))), (AM 0, .inl (cY 0, 72, .inl tb)), (AM 2, .inl (cY 0, 22, .inl sA)), (AM 3, .inl (cY 0, 22, .inl rd)), (AM 4, .inl (cY 0, 110, .inl kp)), (AM 5, .inl (cY 0, 8414, .inl td)), (AM 6, .inl (cY 0, 2, .inl wn)), (AM 13, .inl (cY 0, 4, .inl rw)), (AM 14, .inl (cY 0, 4, .inl br))]) (wn := [(m0, .inr (8, mdL AM (upd g 12 1))), (AM 0, .inl (cY 0, 72, .inl tb)), (AM 2, .inl (cY 0, 22, .inl sA)), (AM 3, .inl (cY 0, 22, .inl rd)), (AM 4, .inl (cY 0, 110, .inl kp)), (AM 5, .inl (cY 0, 8414, .inl td)), (AM 6, .inl (cY 0, 2, .inl wn)), (AM 13, .inl (cY 0, 4, .inl rw)), (AM 14, .inl (cY 0, 4, .inl br))]) hP hD [0, 1, 2, 3, 4, 5, 6, 7, 8] [] rfl rfl (by decide) (by decide) hk1 hFc hB ht [0, 1, 2, 3, 4, 5, 6, 7, 8] rfl (by decide)
      clear hB hk1 hFc hPc hDc hP hD hS hz1 hvm ht t
      obtain ⟨hP1, hD1⟩ := hJ
      generalize H1 = H at hP1 hS1 ⊢
      have hP : va_P (dC, dI) vwCl [(m0, .inr (8, mdL AM (upd g 12 1))), (AM 0, .inl (cY 0, 72, .inl tb)), (AM 2, .inl (cY 0, 22, .inl sA)), (AM 3, .inl (cY 0, 22, .inl rd)), (AM 4, .inl (cY 0, 110, .inl kp)), (AM 5, .inl (cY 0, 8414, .inl td)), (AM 6, .inl (cY 0, 2, .inl wn)), (AM 13, .inl (cY 0, 4, .inl rw)), (AM 14, .inl (cY 0, 4, .inl br))] H := hP1
      have hD : va_D A [(m0, .inr (8, mdL AM (upd g 12 1))), (AM 0, .inl (cY 0, 72, .inl tb)), (AM 2, .inl (cY 0, 22, .inl sA)), (AM 3, .inl (cY 0, 22, .inl rd)), (AM 4, .inl (cY 0, 110, .inl kp)), (AM 5, .inl (cY 0, 8414, .inl td)), (AM 6, .inl (cY 0, 2, .inl wn)), (AM 13, .inl (cY 0, 4, .inl rw)), (AM 14, .inl (cY 0, 4, .inl br))] := hD1
      have hS := hS1
      clear hP1 hD1 hS1
      refine lv_if_ne (tgt := 49) hx hb dX8_again_44 (by decide) (fun c_32 => ?_) (fun c_32 => ?_)
      · exact absurd (by decide) c_32
      refine lv_iconst (v := 0) hx hb dX8_again_47 (by decide) ?_
      have eo_33 : (X8_again_r g td figure frame what) = 0 := by rw [X8_again_r]; simp only [eq_false c_3, eq_true c_12, ↓reduceIte]
      have eo_34 : (X8_again_w0 g figure frame what) = (upd g 12 1) := by rw [X8_again_w0]; simp only [eq_false c_3, eq_true c_12, ↓reduceIte]
      have hP9 : va_P (dC, dI) vwCl [(m0, .inr (8, mdL AM (X8_again_w0 g figure frame what))), (AM 0, .inl (cY 0, 72, .inl tb)), (AM 2, .inl (cY 0, 22, .inl sA)), (AM 3, .inl (cY 0, 22, .inl rd)), (AM 4, .inl (cY 0, 110, .inl kp)), (AM 5, .inl (cY 0, 8414, .inl td)), (AM 6, .inl (cY 0, 2, .inl wn)), (AM 13, .inl (cY 0, 4, .inl rw)), (AM 14, .inl (cY 0, 4, .inl br))] H := by simp only [eo_34]; exact hP
      have hD9 : va_D A [(m0, .inr (8, mdL AM (X8_again_w0 g figure frame what))), (AM 0, .inl (cY 0, 72, .inl tb)), (AM 2, .inl (cY 0, 22, .inl sA)), (AM 3, .inl (cY 0, 22, .inl rd)), (AM 4, .inl (cY 0, 110, .inl kp)), (AM 5, .inl (cY 0, 8414, .inl td)), (AM 6, .inl (cY 0, 2, .inl wn)), (AM 13, .inl (cY 0, 4, .inl rw)), (AM 14, .inl (cY 0, 4, .inl br))] := by simp only [eo_34]; exact hD
      exact W.iret (v := 0) hx hb hr (fun t ht hW => ⟨⟨_, (), rfl, eo_33.symm, wPost_of hP9 hD9 ht⟩, hS.F ht⟩) hS.2.2 dX8_again_48
def X8_punish_j59 (g : Nat → Int32) (tb : Nat → Int32) (sA : Nat → Int32) (by_ : Int32) (move : Int32) : Int32 := (if (X8_lossBy_r (X8_lossBy_w0 (upd g 12 0) tb sA by_ 2 move) tb (X8_lossBy_w2 (upd g 12 0) tb sA by_ 2 move) by_ 4 move) ≤ (X8_lossBy_r (upd g 12 0) tb sA by_ 2 move) then (X8_lossBy_r (X8_lossBy_w0 (upd g 12 0) tb sA by_ 2 move) tb (X8_lossBy_w2 (upd g 12 0) tb sA by_ 2 move) by_ 4 move) else (X8_lossBy_r (upd g 12 0) tb sA by_ 2 move))
def X8_punish_r (g : Nat → Int32) (tb : Nat → Int32) (sA : Nat → Int32) (by_ : Int32) (move : Int32) : Int32 := (if (X8_in_r ((g 1) - 1) 0 move) = 0 then 0 else (if (X8_in_r ((g 1) - 1) 0 by_) = 0 then 0 else (if 0 ≤ (X8_punish_j59 g tb sA by_ move) then (X8_punish_j59 g tb sA by_ move) else 0)))
def X8_punish_w0 (g : Nat → Int32) (tb : Nat → Int32) (sA : Nat → Int32) (by_ : Int32) (move : Int32) : Nat → Int32 := (if (X8_in_r ((g 1) - 1) 0 move) = 0 then (upd g 12 1) else (if (X8_in_r ((g 1) - 1) 0 by_) = 0 then (upd g 12 1) else (X8_lossBy_w0 (X8_lossBy_w0 (upd g 12 0) tb sA by_ 2 move) tb (X8_lossBy_w2 (upd g 12 0) tb sA by_ 2 move) by_ 4 move)))
def X8_punish_w2 (g : Nat → Int32) (tb : Nat → Int32) (sA : Nat → Int32) (by_ : Int32) (move : Int32) : Nat → Int32 := (if (X8_in_r ((g 1) - 1) 0 move) = 0 then sA else (if (X8_in_r ((g 1) - 1) 0 by_) = 0 then sA else (X8_lossBy_w2 (X8_lossBy_w0 (upd g 12 0) tb sA by_ 2 move) tb (X8_lossBy_w2 (upd g 12 0) tb sA by_ 2 move) by_ 4 move)))
set_option maxHeartbeats 4000000 in
set_option maxRecDepth 100000 in
theorem c_X8_punish (l : Launch) (dC : Nat → ClassId) (dI : Nat → Nat → Nat) (cY : Nat → ClassId) (m0 : Nat) (AM : Nat → Nat) (g : Nat → Int32) (tb : Nat → Int32) (sA : Nat → Int32) (rd : Nat → Int32) (kp : Nat → Int32) (td : Nat → Int32) (wn : Nat → Int32) (rw : Nat → Int32) (br : Nat → Int32) (move : Int32) (by_ : Int32) (hmv : vp_in (g 1) 7) (sz : Nat) : Met l yX8_punish wsX8_punish ({ frames := 5, cells := 0, slots := 0, locals := 135 } : Room) (va_Pc [.ref m0, .int move, .int by_] (wPre (dC, dI) (tyL cY) [(m0, .inr (8, mdL AM g)), (AM 0, .inl (cY 0, 72, .inl tb)), (AM 2, .inl (cY 0, 22, .inl sA)), (AM 3, .inl (cY 0, 22, .inl rd)), (AM 4, .inl (cY 0, 110, .inl kp)), (AM 5, .inl (cY 0, 8414, .inl td)), (AM 6, .inl (cY 0, 2, .inl wn)), (AM 13, .inl (cY 0, 4, .inl rw)), (AM 14, .inl (cY 0, 4, .inl br))] sz)) (va_Qi (fun (r : Int32) (_ : Unit) => r = (X8_punish_r g tb sA by_ move)) (wPost (dC, dI) [(m0, .inr (8, mdL AM (X8_punish_w0 g tb sA by_ move))), (AM 0, .inl (cY 0, 72, .inl tb)), (AM 2, .inl (cY 0, 22, .inl (X8_punish_w2 g tb sA by_ move))), (AM 3, .inl (cY 0, 22, .inl rd)), (AM 4, .inl (cY 0, 110, .inl kp)), (AM 5, .inl (cY 0, 8414, .inl td)), (AM 6, .inl (cY 0, 2, .inl wn)), (AM 13, .inl (cY 0, 4, .inl rw)), (AM 14, .inl (cY 0, 4, .inl br))] (va_A [(m0, .inr (8, mdL AM g)), (AM 0, .inl (cY 0, 72, .inl tb)), (AM 2, .inl (cY 0, 22, .inl sA)), (AM 3, .inl (cY 0, 22, .inl rd)), (AM 4, .inl (cY 0, 110, .inl kp)), (AM 5, .inl (cY 0, 8414, .inl td)), (AM 6, .inl (cY 0, 2, .inl wn)), (AM 13, .inl (cY 0, 4, .inl rw)), (AM 14, .inl (cY 0, 4, .inl br))] sz)) (va_A [(m0, .inr (8, mdL AM g)), (AM 0, .inl (cY 0, 72, .inl tb)), (AM 2, .inl (cY 0, 22, .inl sA)), (AM 3, .inl (cY 0, 22, .inl rd)), (AM 4, .inl (cY 0, 110, .inl kp)), (AM 5, .inl (cY 0, 8414, .inl td)), (AM 6, .inl (cY 0, 2, .inl wn)), (AM 13, .inl (cY 0, 4, .inl rw)), (AM 14, .inl (cY 0, 4, .inl br))] sz)) 0 0 (va_A [(m0, .inr (8, mdL AM g)), (AM 0, .inl (cY 0, 72, .inl tb)), (AM 2, .inl (cY 0, 22, .inl sA)), (AM 3, .inl (cY 0, 22, .inl rd)), (AM 4, .inl (cY 0, 110, .inl kp)), (AM 5, .inl (cY 0, 8414, .inl td)), (AM 6, .inl (cY 0, 2, .inl wn)), (AM 13, .inl (cY 0, 4, .inl rw)), (AM 14, .inl (cY 0, 4, .inl br))] sz) := by
  refine Met.ofW (cc := cX8_punish) (maxL := 6) (ret := (some .int)) (by decide) rfl ?_
  intro p e s m args below meth c s₁ B hml hv
  obtain ⟨rfl, hsz, hP, hK, hN, hD0⟩ := hv
  have hx := B.exec
  have hb := B.bytes
  have hr := B.returns
  have hts := atoms_spec (ws := wsX8_punish) B.pre
  have hown : s.vm.findClass RX8 = some m.cls := findClass_of_methodNamed B.named
  have hlocks := B.notSynchronized
  subst hsz
  have hD := hD0.self (sz := s.heap.size)
  generalize hAe : va_A [(m0, .inr (8, mdL AM g)), (AM 0, .inl (cY 0, 72, .inl tb)), (AM 2, .inl (cY 0, 22, .inl sA)), (AM 3, .inl (cY 0, 22, .inl rd)), (AM 4, .inl (cY 0, 110, .inl kp)), (AM 5, .inl (cY 0, 8414, .inl td)), (AM 6, .inl (cY 0, 2, .inl wn)), (AM 13, .inl (cY 0, 4, .inl rw)), (AM 14, .inl (cY 0, 4, .inl br))] s.heap.size = A at hD ⊢
  have hA : ∀ q : Nat, s.heap.size ≤ q → A q := fun q h => by rw [← hAe]; exact Or.inr h
  have hS : va_S A s.heap s.heap [] := va_S.rf
  have hP : va_P (dC, dI) vwCl [(m0, .inr (8, mdL AM g)), (AM 0, .inl (cY 0, 72, .inl tb)), (AM 2, .inl (cY 0, 22, .inl sA)), (AM 3, .inl (cY 0, 22, .inl rd)), (AM 4, .inl (cY 0, 110, .inl kp)), (AM 5, .inl (cY 0, 8414, .inl td)), (AM 6, .inl (cY 0, 2, .inl wn)), (AM 13, .inl (cY 0, 4, .inl rw)), (AM 14, .inl (cY 0, 4, .inl br))] s.heap := hP
  have hl := lv_entry ([.ref m0, .int move, .int by_]) (n := 6) (Nat.le_of_ble_eq_true rfl)
  rw [lg_entry_eq]
  generalize (lg_sl ([.ref m0, .int move, .int by_]) ++ List.replicate (6 - (lg_sl ([.ref m0, .int move, .int by_])).length) Slot.unset).toArray = ls at hl ⊢
  have hl : lv_has ls 6 [(0, .ref m0), (1, .int move), (2, .int by_)] := hl
  refine lv_aload_n hx hb dX8_punish_0 rfl (lv_at hl 0 rfl) ?_
  refine lv_aload_n hx hb dX8_punish_1 rfl (lv_at hl 0 rfl) ?_
  refine lv_iload_n hx hb dX8_punish_2 rfl (lv_at hl 1 rfl) ?_
  refine vp_callSi (W.runV (As := [.int move]) (rest := [.ref m0]) ⟨hx, hb, hml, hown, hts⟩ (c_X8_isMove l dC dI cY m0 AM g tb sA rd kp td wn rw br move) (cwV 1 hts gX8_punish_X8_isMove rfl rfl rfl (by decide +kernel) ⟨Nat.le_of_ble_eq_true rfl, Nat.le_of_ble_eq_true rfl⟩) ⟨blindR, va_recv hK hP (ci := 8) (q0 := 0) rfl rfl, fun U hU hW => ⟨rfl, rPre_of hP hK hN U hU hW⟩⟩ rfl rfl hl.1 rfl (lv_room (Nat.le_of_ble_eq_true rfl)) dX8_punish_3 ⟨Nat.zero_le _, Nat.zero_le _⟩) (fun r_1 hw => ?_)
  obtain ⟨hw, hb_2⟩ := hw
  subst hw
  refine lv_if_eq (tgt := 21) hx hb dX8_punish_6 (by decide) (fun c_3 => ?_) (fun c_3 => ?_)
  · refine lv_iconst (v := 1) hx hb dX8_punish_21 (by decide) ?_
    have hPc := hP.sub (ws' := [(m0, .inr (8, mdL AM g)), (AM 0, .inl (cY 0, 72, .inl tb)), (AM 2, .inl (cY 0, 22, .inl sA)), (AM 3, .inl (cY 0, 22, .inl rd)), (AM 4, .inl (cY 0, 110, .inl kp)), (AM 5, .inl (cY 0, 8414, .inl td)), (AM 6, .inl (cY 0, 2, .inl wn)), (AM 13, .inl (cY 0, 4, .inl rw)), (AM 14, .inl (cY 0, 4, .inl br))]) [0, 1, 2, 3, 4, 5, 6, 7, 8] rfl
    have hDc := hD.sub (ws' := [(m0, .inr (8, mdL AM g)), (AM 0, .inl (cY 0, 72, .inl tb)), (AM 2, .inl (cY 0, 22, .inl sA)), (AM 3, .inl (cY 0, 22, .inl rd)), (AM 4, .inl (cY 0, 110, .inl kp)), (AM 5, .inl (cY 0, 8414, .inl td)), (AM 6, .inl (cY 0, 2, .inl wn)), (AM 13, .inl (cY 0, 4, .inl rw)), (AM 14, .inl (cY 0, 4, .inl br))]) [0, 1, 2, 3, 4, 5, 6, 7, 8] (by decide) rfl
    have hFc := va_free (wc := [(m0, .inr (8, mdL AM g)), (AM 0, .inl (cY 0, 72, .inl tb)), (AM 2, .inl (cY 0, 22, .inl sA)), (AM 3, .inl (cY 0, 22, .inl rd)), (AM 4, .inl (cY 0, 110, .inl kp)), (AM 5, .inl (cY 0, 8414, .inl td)), (AM 6, .inl (cY 0, 2, .inl wn)), (AM 13, .inl (cY 0, 4, .inl rw)), (AM 14, .inl (cY 0, 4, .inl br))]) hD hS hA [0, 1, 2, 3, 4, 5, 6, 7, 8] rfl
    refine va_calli (va_runV (As := [.int 1]) (rest := []) ⟨hx, hb, hml, hown, hts⟩ (c_X8_isFine l dC dI cY m0 AM g tb sA rd kp td wn rw br 1 s.heap.size) (cwV 1 hts gX8_punish_X8_isFine rfl rfl rfl (by decide +kernel) ⟨Nat.le_of_ble_eq_true rfl, Nat.le_of_ble_eq_true rfl⟩) ⟨blindW, va_recv hK hPc (ci := 8) (q0 := 0) rfl rfl, fun U hU hW => ⟨rfl, wPre_of hPc hK hN hDc U hU hW⟩⟩ rfl rfl hl.1 rfl (lv_room (Nat.le_of_ble_eq_true rfl)) dX8_punish_22 ⟨Nat.zero_le _, Nat.zero_le _⟩) hS (fun q _ h => hFc q h) hFc (fun r_4 u t H1 locs ht hvm hw hB hz1 hk1 hS1 => ?_)
    obtain ⟨hw, hb_5⟩ := hw
    subst hw
    refine lv_topi (fun x_6 ex_6 => ?_)
    obtain rfl : x_6 = 0 := ex_6.trans (by decide)
    have hJ := wJoin (wr := []) (w1 := [(m0, .inr (8, mdL AM (upd g 12 1))), (AM 0, .inl (cY 0, 72, .inl tb)), (AM 2, .inl (cY 0, 22, .inl sA)), (AM 3, .inl (cY 0, 22, .inl rd)), (AM 4, .inl (cY 0, 110, .inl kp)), (AM 5, .inl (cY 0, 8414, .inl td)), (AM 6, .inl (cY 0, 2, .inl wn)), (AM 13, .inl (cY 0, 4, .inl rw)), (AM 14, .inl (cY 0, 4, .inl br))]) (wn := [(m0, .inr (8, mdL AM (upd g 12 1))), (AM 0, .inl (cY 0, 72, .inl tb)), (AM 2, .inl (cY 0, 22, .inl sA)), (AM 3, .inl (cY 0, 22, .inl rd)), (AM 4, .inl (cY 0, 110, .inl kp)), (AM 5, .inl (cY 0, 8414, .inl td)), (AM 6, .inl (cY 0, 2, .inl wn)), (AM 13, .inl (cY 0, 4, .inl rw)), (AM 14, .inl (cY 0, 4, .inl br))]) hP hD [0, 1, 2, 3, 4, 5, 6, 7, 8] [] rfl rfl (by decide) (by decide) hk1 hFc hB ht [0, 1, 2, 3, 4, 5, 6, 7, 8] rfl (by decide)
    clear hB hk1 hFc hPc hDc hP hD hS hz1 hvm ht t
    obtain ⟨hP1, hD1⟩ := hJ
    generalize H1 = H at hP1 hS1 ⊢
    have hP : va_P (dC, dI) vwCl [(m0, .inr (8, mdL AM (upd g 12 1))), (AM 0, .inl (cY 0, 72, .inl tb)), (AM 2, .inl (cY 0, 22, .inl sA)), (AM 3, .inl (cY 0, 22, .inl rd)), (AM 4, .inl (cY 0, 110, .inl kp)), (AM 5, .inl (cY 0, 8414, .inl td)), (AM 6, .inl (cY 0, 2, .inl wn)), (AM 13, .inl (cY 0, 4, .inl rw)), (AM 14, .inl (cY 0, 4, .inl br))] H := hP1
    have hD : va_D A [(m0, .inr (8, mdL AM (upd g 12 1))), (AM 0, .inl (cY 0, 72, .inl tb)), (AM 2, .inl (cY 0, 22, .inl sA)), (AM 3, .inl (cY 0, 22, .inl rd)), (AM 4, .inl (cY 0, 110, .inl kp)), (AM 5, .inl (cY 0, 8414, .inl td)), (AM 6, .inl (cY 0, 2, .inl wn)), (AM 13, .inl (cY 0, 4, .inl rw)), (AM 14, .inl (cY 0, 4, .inl br))] := hD1
    have hS := hS1
    clear hP1 hD1 hS1
    refine lv_if_ne (tgt := 30) hx hb dX8_punish_25 (by decide) (fun c_7 => ?_) (fun c_7 => ?_)
    · exact absurd (by decide) c_7
    refine lv_iconst (v := 0) hx hb dX8_punish_28 (by decide) ?_
    have eo_8 : (X8_punish_r g tb sA by_ move) = 0 := by rw [X8_punish_r]; simp only [eq_true c_3, ↓reduceIte]
    have eo_9 : (X8_punish_w0 g tb sA by_ move) = (upd g 12 1) := by rw [X8_punish_w0]; simp only [eq_true c_3, ↓reduceIte]
    have eo_10 : (X8_punish_w2 g tb sA by_ move) = sA := by rw [X8_punish_w2]; simp only [eq_true c_3, ↓reduceIte]
    have hP9 : va_P (dC, dI) vwCl [(m0, .inr (8, mdL AM (X8_punish_w0 g tb sA by_ move))), (AM 0, .inl (cY 0, 72, .inl tb)), (AM 2, .inl (cY 0, 22, .inl (X8_punish_w2 g tb sA by_ move))), (AM 3, .inl (cY 0, 22, .inl rd)), (AM 4, .inl (cY 0, 110, .inl kp)), (AM 5, .inl (cY 0, 8414, .inl td)), (AM 6, .inl (cY 0, 2, .inl wn)), (AM 13, .inl (cY 0, 4, .inl rw)), (AM 14, .inl (cY 0, 4, .inl br))] H := by simp only [eo_9, eo_10]; exact hP
    have hD9 : va_D A [(m0, .inr (8, mdL AM (X8_punish_w0 g tb sA by_ move))), (AM 0, .inl (cY 0, 72, .inl tb)), (AM 2, .inl (cY 0, 22, .inl (X8_punish_w2 g tb sA by_ move))), (AM 3, .inl (cY 0, 22, .inl rd)), (AM 4, .inl (cY 0, 110, .inl kp)), (AM 5, .inl (cY 0, 8414, .inl td)), (AM 6, .inl (cY 0, 2, .inl wn)), (AM 13, .inl (cY 0, 4, .inl rw)), (AM 14, .inl (cY 0, 4, .inl br))] := by simp only [eo_9, eo_10]; exact hD
    exact W.iret (v := 0) hx hb hr (fun t ht hW => ⟨⟨_, (), rfl, eo_8.symm, wPost_of hP9 hD9 ht⟩, hS.F ht⟩) hS.2.2 dX8_punish_29
  · refine lv_aload_n hx hb dX8_punish_9 rfl (lv_at hl 0 rfl) ?_
    refine lv_iload_n hx hb dX8_punish_10 rfl (lv_at hl 2 rfl) ?_
    refine vp_callSi (W.runV (As := [.int by_]) (rest := [.ref m0]) ⟨hx, hb, hml, hown, hts⟩ (c_X8_isMove l dC dI cY m0 AM g tb sA rd kp td wn rw br by_) (cwV 1 hts gX8_punish_X8_isMove rfl rfl rfl (by decide +kernel) ⟨Nat.le_of_ble_eq_true rfl, Nat.le_of_ble_eq_true rfl⟩) ⟨blindR, va_recv hK hP (ci := 8) (q0 := 0) rfl rfl, fun U hU hW => ⟨rfl, rPre_of hP hK hN U hU hW⟩⟩ rfl rfl hl.1 rfl (lv_room (Nat.le_of_ble_eq_true rfl)) dX8_punish_11 ⟨Nat.zero_le _, Nat.zero_le _⟩) (fun r_11 hw => ?_)
    obtain ⟨hw, hb_12⟩ := hw
    subst hw
    refine lv_if_eq (tgt := 21) hx hb dX8_punish_14 (by decide) (fun c_13 => ?_) (fun c_13 => ?_)
    · refine lv_iconst (v := 1) hx hb dX8_punish_21 (by decide) ?_
      have hPc := hP.sub (ws' := [(m0, .inr (8, mdL AM g)), (AM 0, .inl (cY 0, 72, .inl tb)), (AM 2, .inl (cY 0, 22, .inl sA)), (AM 3, .inl (cY 0, 22, .inl rd)), (AM 4, .inl (cY 0, 110, .inl kp)), (AM 5, .inl (cY 0, 8414, .inl td)), (AM 6, .inl (cY 0, 2, .inl wn)), (AM 13, .inl (cY 0, 4, .inl rw)), (AM 14, .inl (cY 0, 4, .inl br))]) [0, 1, 2, 3, 4, 5, 6, 7, 8] rfl
      have hDc := hD.sub (ws' := [(m0, .inr (8, mdL AM g)), (AM 0, .inl (cY 0, 72, .inl tb)), (AM 2, .inl (cY 0, 22, .inl sA)), (AM 3, .inl (cY 0, 22, .inl rd)), (AM 4, .inl (cY 0, 110, .inl kp)), (AM 5, .inl (cY 0, 8414, .inl td)), (AM 6, .inl (cY 0, 2, .inl wn)), (AM 13, .inl (cY 0, 4, .inl rw)), (AM 14, .inl (cY 0, 4, .inl br))]) [0, 1, 2, 3, 4, 5, 6, 7, 8] (by decide) rfl
      have hFc := va_free (wc := [(m0, .inr (8, mdL AM g)), (AM 0, .inl (cY 0, 72, .inl tb)), (AM 2, .inl (cY 0, 22, .inl sA)), (AM 3, .inl (cY 0, 22, .inl rd)), (AM 4, .inl (cY 0, 110, .inl kp)), (AM 5, .inl (cY 0, 8414, .inl td)), (AM 6, .inl (cY 0, 2, .inl wn)), (AM 13, .inl (cY 0, 4, .inl rw)), (AM 14, .inl (cY 0, 4, .inl br))]) hD hS hA [0, 1, 2, 3, 4, 5, 6, 7, 8] rfl
      refine va_calli (va_runV (As := [.int 1]) (rest := []) ⟨hx, hb, hml, hown, hts⟩ (c_X8_isFine l dC dI cY m0 AM g tb sA rd kp td wn rw br 1 s.heap.size) (cwV 1 hts gX8_punish_X8_isFine rfl rfl rfl (by decide +kernel) ⟨Nat.le_of_ble_eq_true rfl, Nat.le_of_ble_eq_true rfl⟩) ⟨blindW, va_recv hK hPc (ci := 8) (q0 := 0) rfl rfl, fun U hU hW => ⟨rfl, wPre_of hPc hK hN hDc U hU hW⟩⟩ rfl rfl hl.1 rfl (lv_room (Nat.le_of_ble_eq_true rfl)) dX8_punish_22 ⟨Nat.zero_le _, Nat.zero_le _⟩) hS (fun q _ h => hFc q h) hFc (fun r_14 u t H1 locs ht hvm hw hB hz1 hk1 hS1 => ?_)
      obtain ⟨hw, hb_15⟩ := hw
      subst hw
      refine lv_topi (fun x_16 ex_16 => ?_)
      obtain rfl : x_16 = 0 := ex_16.trans (by decide)
      have hJ := wJoin (wr := []) (w1 := [(m0, .inr (8, mdL AM (upd g 12 1))), (AM 0, .inl (cY 0, 72, .inl tb)), (AM 2, .inl (cY 0, 22, .inl sA)), (AM 3, .inl (cY 0, 22, .inl rd)), (AM 4, .inl (cY 0, 110, .inl kp)), (AM 5, .inl (cY 0, 8414, .inl td)), (AM 6, .inl (cY 0, 2, .inl wn)), (AM 13, .inl (cY 0, 4, .inl rw)), (AM 14, .inl (cY 0, 4, .inl br))]) (wn := [(m0, .inr (8, mdL AM (upd g 12 1))), (AM 0, .inl (cY 0, 72, .inl tb)), (AM 2, .inl (cY 0, 22, .inl sA)), (AM 3, .inl (cY 0, 22, .inl rd)), (AM 4, .inl (cY 0, 110, .inl kp)), (AM 5, .inl (cY 0, 8414, .inl td)), (AM 6, .inl (cY 0, 2, .inl wn)), (AM 13, .inl (cY 0, 4, .inl rw)), (AM 14, .inl (cY 0, 4, .inl br))]) hP hD [0, 1, 2, 3, 4, 5, 6, 7, 8] [] rfl rfl (by decide) (by decide) hk1 hFc hB ht [0, 1, 2, 3, 4, 5, 6, 7, 8] rfl (by decide)
      clear hB hk1 hFc hPc hDc hP hD hS hz1 hvm ht t
      obtain ⟨hP1, hD1⟩ := hJ
      generalize H1 = H at hP1 hS1 ⊢
      have hP : va_P (dC, dI) vwCl [(m0, .inr (8, mdL AM (upd g 12 1))), (AM 0, .inl (cY 0, 72, .inl tb)), (AM 2, .inl (cY 0, 22, .inl sA)), (AM 3, .inl (cY 0, 22, .inl rd)), (AM 4, .inl (cY 0, 110, .inl kp)), (AM 5, .inl (cY 0, 8414, .inl td)), (AM 6, .inl (cY 0, 2, .inl wn)), (AM 13, .inl (cY 0, 4, .inl rw)), (AM 14, .inl (cY 0, 4, .inl br))] H := hP1
      have hD : va_D A [(m0, .inr (8, mdL AM (upd g 12 1))), (AM 0, .inl (cY 0, 72, .inl tb)), (AM 2, .inl (cY 0, 22, .inl sA)), (AM 3, .inl (cY 0, 22, .inl rd)), (AM 4, .inl (cY 0, 110, .inl kp)), (AM 5, .inl (cY 0, 8414, .inl td)), (AM 6, .inl (cY 0, 2, .inl wn)), (AM 13, .inl (cY 0, 4, .inl rw)), (AM 14, .inl (cY 0, 4, .inl br))] := hD1
      have hS := hS1
      clear hP1 hD1 hS1
      refine lv_if_ne (tgt := 30) hx hb dX8_punish_25 (by decide) (fun c_17 => ?_) (fun c_17 => ?_)
      · exact absurd (by decide) c_17
      refine lv_iconst (v := 0) hx hb dX8_punish_28 (by decide) ?_
      have eo_18 : (X8_punish_r g tb sA by_ move) = 0 := by rw [X8_punish_r]; simp only [eq_false c_3, eq_true c_13, ↓reduceIte]
      have eo_19 : (X8_punish_w0 g tb sA by_ move) = (upd g 12 1) := by rw [X8_punish_w0]; simp only [eq_false c_3, eq_true c_13, ↓reduceIte]
      have eo_20 : (X8_punish_w2 g tb sA by_ move) = sA := by rw [X8_punish_w2]; simp only [eq_false c_3, eq_true c_13, ↓reduceIte]
      have hP9 : va_P (dC, dI) vwCl [(m0, .inr (8, mdL AM (X8_punish_w0 g tb sA by_ move))), (AM 0, .inl (cY 0, 72, .inl tb)), (AM 2, .inl (cY 0, 22, .inl (X8_punish_w2 g tb sA by_ move))), (AM 3, .inl (cY 0, 22, .inl rd)), (AM 4, .inl (cY 0, 110, .inl kp)), (AM 5, .inl (cY 0, 8414, .inl td)), (AM 6, .inl (cY 0, 2, .inl wn)), (AM 13, .inl (cY 0, 4, .inl rw)), (AM 14, .inl (cY 0, 4, .inl br))] H := by simp only [eo_19, eo_20]; exact hP
      have hD9 : va_D A [(m0, .inr (8, mdL AM (X8_punish_w0 g tb sA by_ move))), (AM 0, .inl (cY 0, 72, .inl tb)), (AM 2, .inl (cY 0, 22, .inl (X8_punish_w2 g tb sA by_ move))), (AM 3, .inl (cY 0, 22, .inl rd)), (AM 4, .inl (cY 0, 110, .inl kp)), (AM 5, .inl (cY 0, 8414, .inl td)), (AM 6, .inl (cY 0, 2, .inl wn)), (AM 13, .inl (cY 0, 4, .inl rw)), (AM 14, .inl (cY 0, 4, .inl br))] := by simp only [eo_19, eo_20]; exact hD
      exact W.iret (v := 0) hx hb hr (fun t ht hW => ⟨⟨_, (), rfl, eo_18.symm, wPost_of hP9 hD9 ht⟩, hS.F ht⟩) hS.2.2 dX8_punish_29
    · refine lv_iconst (v := 0) hx hb dX8_punish_17 (by decide) ?_
      refine lv_goto (tgt := 22) hx hb dX8_punish_18 (by decide) ?_
      have hPc := hP.sub (ws' := [(m0, .inr (8, mdL AM g)), (AM 0, .inl (cY 0, 72, .inl tb)), (AM 2, .inl (cY 0, 22, .inl sA)), (AM 3, .inl (cY 0, 22, .inl rd)), (AM 4, .inl (cY 0, 110, .inl kp)), (AM 5, .inl (cY 0, 8414, .inl td)), (AM 6, .inl (cY 0, 2, .inl wn)), (AM 13, .inl (cY 0, 4, .inl rw)), (AM 14, .inl (cY 0, 4, .inl br))]) [0, 1, 2, 3, 4, 5, 6, 7, 8] rfl
      have hDc := hD.sub (ws' := [(m0, .inr (8, mdL AM g)), (AM 0, .inl (cY 0, 72, .inl tb)), (AM 2, .inl (cY 0, 22, .inl sA)), (AM 3, .inl (cY 0, 22, .inl rd)), (AM 4, .inl (cY 0, 110, .inl kp)), (AM 5, .inl (cY 0, 8414, .inl td)), (AM 6, .inl (cY 0, 2, .inl wn)), (AM 13, .inl (cY 0, 4, .inl rw)), (AM 14, .inl (cY 0, 4, .inl br))]) [0, 1, 2, 3, 4, 5, 6, 7, 8] (by decide) rfl
      have hFc := va_free (wc := [(m0, .inr (8, mdL AM g)), (AM 0, .inl (cY 0, 72, .inl tb)), (AM 2, .inl (cY 0, 22, .inl sA)), (AM 3, .inl (cY 0, 22, .inl rd)), (AM 4, .inl (cY 0, 110, .inl kp)), (AM 5, .inl (cY 0, 8414, .inl td)), (AM 6, .inl (cY 0, 2, .inl wn)), (AM 13, .inl (cY 0, 4, .inl rw)), (AM 14, .inl (cY 0, 4, .inl br))]) hD hS hA [0, 1, 2, 3, 4, 5, 6, 7, 8] rfl
      refine va_calli (va_runV (As := [.int 0]) (rest := []) ⟨hx, hb, hml, hown, hts⟩ (c_X8_isFine l dC dI cY m0 AM g tb sA rd kp td wn rw br 0 s.heap.size) (cwV 1 hts gX8_punish_X8_isFine rfl rfl rfl (by decide +kernel) ⟨Nat.le_of_ble_eq_true rfl, Nat.le_of_ble_eq_true rfl⟩) ⟨blindW, va_recv hK hPc (ci := 8) (q0 := 0) rfl rfl, fun U hU hW => ⟨rfl, wPre_of hPc hK hN hDc U hU hW⟩⟩ rfl rfl hl.1 rfl (lv_room (Nat.le_of_ble_eq_true rfl)) dX8_punish_22 ⟨Nat.zero_le _, Nat.zero_le _⟩) hS (fun q _ h => hFc q h) hFc (fun r_21 u t H1 locs ht hvm hw hB hz1 hk1 hS1 => ?_)
      obtain ⟨hw, hb_22⟩ := hw
      subst hw
      refine lv_topi (fun x_23 ex_23 => ?_)
      obtain rfl : x_23 = 1 := ex_23.trans (by decide)
      have hJ := wJoin (wr := []) (w1 := [(m0, .inr (8, mdL AM (upd g 12 0))), (AM 0, .inl (cY 0, 72, .inl tb)), (AM 2, .inl (cY 0, 22, .inl sA)), (AM 3, .inl (cY 0, 22, .inl rd)), (AM 4, .inl (cY 0, 110, .inl kp)), (AM 5, .inl (cY 0, 8414, .inl td)), (AM 6, .inl (cY 0, 2, .inl wn)), (AM 13, .inl (cY 0, 4, .inl rw)), (AM 14, .inl (cY 0, 4, .inl br))]) (wn := [(m0, .inr (8, mdL AM (upd g 12 0))), (AM 0, .inl (cY 0, 72, .inl tb)), (AM 2, .inl (cY 0, 22, .inl sA)), (AM 3, .inl (cY 0, 22, .inl rd)), (AM 4, .inl (cY 0, 110, .inl kp)), (AM 5, .inl (cY 0, 8414, .inl td)), (AM 6, .inl (cY 0, 2, .inl wn)), (AM 13, .inl (cY 0, 4, .inl rw)), (AM 14, .inl (cY 0, 4, .inl br))]) hP hD [0, 1, 2, 3, 4, 5, 6, 7, 8] [] rfl rfl (by decide) (by decide) hk1 hFc hB ht [0, 1, 2, 3, 4, 5, 6, 7, 8] rfl (by decide)
      clear hB hk1 hFc hPc hDc hP hD hS hz1 hvm ht t
      obtain ⟨hP1, hD1⟩ := hJ
      generalize H1 = H at hP1 hS1 ⊢
      have hP : va_P (dC, dI) vwCl [(m0, .inr (8, mdL AM (upd g 12 0))), (AM 0, .inl (cY 0, 72, .inl tb)), (AM 2, .inl (cY 0, 22, .inl sA)), (AM 3, .inl (cY 0, 22, .inl rd)), (AM 4, .inl (cY 0, 110, .inl kp)), (AM 5, .inl (cY 0, 8414, .inl td)), (AM 6, .inl (cY 0, 2, .inl wn)), (AM 13, .inl (cY 0, 4, .inl rw)), (AM 14, .inl (cY 0, 4, .inl br))] H := hP1
      have hD : va_D A [(m0, .inr (8, mdL AM (upd g 12 0))), (AM 0, .inl (cY 0, 72, .inl tb)), (AM 2, .inl (cY 0, 22, .inl sA)), (AM 3, .inl (cY 0, 22, .inl rd)), (AM 4, .inl (cY 0, 110, .inl kp)), (AM 5, .inl (cY 0, 8414, .inl td)), (AM 6, .inl (cY 0, 2, .inl wn)), (AM 13, .inl (cY 0, 4, .inl rw)), (AM 14, .inl (cY 0, 4, .inl br))] := hD1
      have hS := hS1
      clear hP1 hD1 hS1
      refine lv_if_ne (tgt := 30) hx hb dX8_punish_25 (by decide) (fun c_24 => ?_) (fun c_24 => ?_)
      rotate_left
      · exact absurd c_24 (by decide)
      refine lv_aload_n hx hb dX8_punish_30 rfl (lv_at hl 0 rfl) ?_
      refine lv_iload_n hx hb dX8_punish_31 rfl (lv_at hl 1 rfl) ?_
      refine lv_iload_n hx hb dX8_punish_32 rfl (lv_at hl 2 rfl) ?_
      refine lv_iconst (v := 2) hx hb dX8_punish_33 (by decide) ?_
      have hPc := hP.sub (ws' := [(m0, .inr (8, mdL AM (upd g 12 0))), (AM 0, .inl (cY 0, 72, .inl tb)), (AM 2, .inl (cY 0, 22, .inl sA)), (AM 3, .inl (cY 0, 22, .inl rd)), (AM 4, .inl (cY 0, 110, .inl kp)), (AM 5, .inl (cY 0, 8414, .inl td)), (AM 6, .inl (cY 0, 2, .inl wn)), (AM 13, .inl (cY 0, 4, .inl rw)), (AM 14, .inl (cY 0, 4, .inl br))]) [0, 1, 2, 3, 4, 5, 6, 7, 8] rfl
      have hDc := hD.sub (ws' := [(m0, .inr (8, mdL AM (upd g 12 0))), (AM 0, .inl (cY 0, 72, .inl tb)), (AM 2, .inl (cY 0, 22, .inl sA)), (AM 3, .inl (cY 0, 22, .inl rd)), (AM 4, .inl (cY 0, 110, .inl kp)), (AM 5, .inl (cY 0, 8414, .inl td)), (AM 6, .inl (cY 0, 2, .inl wn)), (AM 13, .inl (cY 0, 4, .inl rw)), (AM 14, .inl (cY 0, 4, .inl br))]) [0, 1, 2, 3, 4, 5, 6, 7, 8] (by decide) rfl
      have hFc := va_free (wc := [(m0, .inr (8, mdL AM (upd g 12 0))), (AM 0, .inl (cY 0, 72, .inl tb)), (AM 2, .inl (cY 0, 22, .inl sA)), (AM 3, .inl (cY 0, 22, .inl rd)), (AM 4, .inl (cY 0, 110, .inl kp)), (AM 5, .inl (cY 0, 8414, .inl td)), (AM 6, .inl (cY 0, 2, .inl wn)), (AM 13, .inl (cY 0, 4, .inl rw)), (AM 14, .inl (cY 0, 4, .inl br))]) hD hS hA [0, 1, 2, 3, 4, 5, 6, 7, 8] rfl
      refine va_calli (va_runV (As := [.int move, .int by_, .int 2]) (rest := []) ⟨hx, hb, hml, hown, hts⟩ (c_X8_lossBy l dC dI cY m0 AM (upd g 12 0) tb sA rd kp td wn rw br move by_ 2 (isMove_ok hmv c_3) (isMove_ok hmv c_13) (Or.inl (by decide)) H.size) (cwV 3 hts gX8_punish_X8_lossBy rfl rfl rfl (by decide +kernel) ⟨Nat.le_of_ble_eq_true rfl, Nat.le_of_ble_eq_true rfl⟩) ⟨blindW, va_recv hK hPc (ci := 8) (q0 := 0) rfl rfl, fun U hU hW => ⟨rfl, wPre_of hPc hK hN hDc U hU hW⟩⟩ rfl rfl hl.1 rfl (lv_room (Nat.le_of_ble_eq_true rfl)) dX8_punish_34 ⟨Nat.zero_le _, Nat.zero_le _⟩) hS (fun q _ h => hFc q h) hFc (fun r_25 u t H1 locs ht hvm hw hB hz1 hk1 hS1 => ?_)
      have er_25 := hw
      clear hw
      have hJ := wJoin (wr := []) (w1 := [(m0, .inr (8, mdL AM (X8_lossBy_w0 (upd g 12 0) tb sA by_ 2 move))), (AM 0, .inl (cY 0, 72, .inl tb)), (AM 2, .inl (cY 0, 22, .inl (X8_lossBy_w2 (upd g 12 0) tb sA by_ 2 move))), (AM 3, .inl (cY 0, 22, .inl rd)), (AM 4, .inl (cY 0, 110, .inl kp)), (AM 5, .inl (cY 0, 8414, .inl td)), (AM 6, .inl (cY 0, 2, .inl wn)), (AM 13, .inl (cY 0, 4, .inl rw)), (AM 14, .inl (cY 0, 4, .inl br))]) (wn := [(m0, .inr (8, mdL AM (X8_lossBy_w0 (upd g 12 0) tb sA by_ 2 move))), (AM 0, .inl (cY 0, 72, .inl tb)), (AM 2, .inl (cY 0, 22, .inl (X8_lossBy_w2 (upd g 12 0) tb sA by_ 2 move))), (AM 3, .inl (cY 0, 22, .inl rd)), (AM 4, .inl (cY 0, 110, .inl kp)), (AM 5, .inl (cY 0, 8414, .inl td)), (AM 6, .inl (cY 0, 2, .inl wn)), (AM 13, .inl (cY 0, 4, .inl rw)), (AM 14, .inl (cY 0, 4, .inl br))]) hP hD [0, 1, 2, 3, 4, 5, 6, 7, 8] [] rfl rfl (by decide) (by decide) hk1 hFc hB ht [0, 1, 2, 3, 4, 5, 6, 7, 8] rfl (by decide)
      clear hB hk1 hFc hPc hDc hP hD hS hz1 hvm ht t
      obtain ⟨hP1, hD1⟩ := hJ
      generalize H1 = H at hP1 hS1 ⊢
      have hP : va_P (dC, dI) vwCl [(m0, .inr (8, mdL AM (X8_lossBy_w0 (upd g 12 0) tb sA by_ 2 move))), (AM 0, .inl (cY 0, 72, .inl tb)), (AM 2, .inl (cY 0, 22, .inl (X8_lossBy_w2 (upd g 12 0) tb sA by_ 2 move))), (AM 3, .inl (cY 0, 22, .inl rd)), (AM 4, .inl (cY 0, 110, .inl kp)), (AM 5, .inl (cY 0, 8414, .inl td)), (AM 6, .inl (cY 0, 2, .inl wn)), (AM 13, .inl (cY 0, 4, .inl rw)), (AM 14, .inl (cY 0, 4, .inl br))] H := hP1
      have hD : va_D A [(m0, .inr (8, mdL AM (X8_lossBy_w0 (upd g 12 0) tb sA by_ 2 move))), (AM 0, .inl (cY 0, 72, .inl tb)), (AM 2, .inl (cY 0, 22, .inl (X8_lossBy_w2 (upd g 12 0) tb sA by_ 2 move))), (AM 3, .inl (cY 0, 22, .inl rd)), (AM 4, .inl (cY 0, 110, .inl kp)), (AM 5, .inl (cY 0, 8414, .inl td)), (AM 6, .inl (cY 0, 2, .inl wn)), (AM 13, .inl (cY 0, 4, .inl rw)), (AM 14, .inl (cY 0, 4, .inl br))] := hD1
      have hS := hS1
      clear hP1 hD1 hS1
      obtain ⟨z_26, ez_26⟩ : ∃ z, z = (X8_lossBy_w0 (upd g 12 0) tb sA by_ 2 move) := ⟨_, rfl⟩
      rw [← ez_26] at hP hD
      obtain ⟨z_27, ez_27⟩ : ∃ z, z = (X8_lossBy_w2 (upd g 12 0) tb sA by_ 2 move) := ⟨_, rfl⟩
      rw [← ez_27] at hP hD
      refine lv_istore_n (lv' := [(3, .int r_25), (0, .ref m0), (1, .int move), (2, .int by_)]) hx hb dX8_punish_37 rfl hl (by decide) rfl (fun ls hl => ?_)
      refine lv_aload_n hx hb dX8_punish_38 rfl (lv_at hl 1 rfl) ?_
      refine lv_iload_n hx hb dX8_punish_39 rfl (lv_at hl 2 rfl) ?_
      refine lv_iload_n hx hb dX8_punish_40 rfl (lv_at hl 3 rfl) ?_
      refine lv_iconst (v := 4) hx hb dX8_punish_41 (by decide) ?_
      have hPc := hP.sub (ws' := [(m0, .inr (8, mdL AM z_26)), (AM 0, .inl (cY 0, 72, .inl tb)), (AM 2, .inl (cY 0, 22, .inl z_27)), (AM 3, .inl (cY 0, 22, .inl rd)), (AM 4, .inl (cY 0, 110, .inl kp)), (AM 5, .inl (cY 0, 8414, .inl td)), (AM 6, .inl (cY 0, 2, .inl wn)), (AM 13, .inl (cY 0, 4, .inl rw)), (AM 14, .inl (cY 0, 4, .inl br))]) [0, 1, 2, 3, 4, 5, 6, 7, 8] rfl
      have hDc := hD.sub (ws' := [(m0, .inr (8, mdL AM z_26)), (AM 0, .inl (cY 0, 72, .inl tb)), (AM 2, .inl (cY 0, 22, .inl z_27)), (AM 3, .inl (cY 0, 22, .inl rd)), (AM 4, .inl (cY 0, 110, .inl kp)), (AM 5, .inl (cY 0, 8414, .inl td)), (AM 6, .inl (cY 0, 2, .inl wn)), (AM 13, .inl (cY 0, 4, .inl rw)), (AM 14, .inl (cY 0, 4, .inl br))]) [0, 1, 2, 3, 4, 5, 6, 7, 8] (by decide) rfl
      have hFc := va_free (wc := [(m0, .inr (8, mdL AM z_26)), (AM 0, .inl (cY 0, 72, .inl tb)), (AM 2, .inl (cY 0, 22, .inl z_27)), (AM 3, .inl (cY 0, 22, .inl rd)), (AM 4, .inl (cY 0, 110, .inl kp)), (AM 5, .inl (cY 0, 8414, .inl td)), (AM 6, .inl (cY 0, 2, .inl wn)), (AM 13, .inl (cY 0, 4, .inl rw)), (AM 14, .inl (cY 0, 4, .inl br))]) hD hS hA [0, 1, 2, 3, 4, 5, 6, 7, 8] rfl
      refine va_calli (va_runV (As := [.int move, .int by_, .int 4]) (rest := []) ⟨hx, hb, hml, hown, hts⟩ (c_X8_lossBy l dC dI cY m0 AM z_26 tb z_27 rd kp td wn rw br move by_ 4 (by (try simp only [ez_27, ez_26, er_25]); exact (isMove_ok hmv c_3)) (by (try simp only [ez_27, ez_26, er_25]); exact (isMove_ok hmv c_13)) (by (try simp only [ez_27, ez_26, er_25]); exact (Or.inl (by decide))) H.size) (cwV 3 hts gX8_punish_X8_lossBy rfl rfl rfl (by decide +kernel) ⟨Nat.le_of_ble_eq_true rfl, Nat.le_of_ble_eq_true rfl⟩) ⟨blindW, va_recv hK hPc (ci := 8) (q0 := 0) rfl rfl, fun U hU hW => ⟨rfl, wPre_of hPc hK hN hDc U hU hW⟩⟩ rfl rfl hl.1 rfl (lv_room (Nat.le_of_ble_eq_true rfl)) dX8_punish_42 ⟨Nat.zero_le _, Nat.zero_le _⟩) hS (fun q _ h => hFc q h) hFc (fun r_28 u t H1 locs ht hvm hw hB hz1 hk1 hS1 => ?_)
      have er_28 := hw
      clear hw
      have hJ := wJoin (wr := []) (w1 := [(m0, .inr (8, mdL AM (X8_lossBy_w0 z_26 tb z_27 by_ 4 move))), (AM 0, .inl (cY 0, 72, .inl tb)), (AM 2, .inl (cY 0, 22, .inl (X8_lossBy_w2 z_26 tb z_27 by_ 4 move))), (AM 3, .inl (cY 0, 22, .inl rd)), (AM 4, .inl (cY 0, 110, .inl kp)), (AM 5, .inl (cY 0, 8414, .inl td)), (AM 6, .inl (cY 0, 2, .inl wn)), (AM 13, .inl (cY 0, 4, .inl rw)), (AM 14, .inl (cY 0, 4, .inl br))]) (wn := [(m0, .inr (8, mdL AM (X8_lossBy_w0 z_26 tb z_27 by_ 4 move))), (AM 0, .inl (cY 0, 72, .inl tb)), (AM 2, .inl (cY 0, 22, .inl (X8_lossBy_w2 z_26 tb z_27 by_ 4 move))), (AM 3, .inl (cY 0, 22, .inl rd)), (AM 4, .inl (cY 0, 110, .inl kp)), (AM 5, .inl (cY 0, 8414, .inl td)), (AM 6, .inl (cY 0, 2, .inl wn)), (AM 13, .inl (cY 0, 4, .inl rw)), (AM 14, .inl (cY 0, 4, .inl br))]) hP hD [0, 1, 2, 3, 4, 5, 6, 7, 8] [] rfl rfl (by decide) (by decide) hk1 hFc hB ht [0, 1, 2, 3, 4, 5, 6, 7, 8] rfl (by decide)
      clear hB hk1 hFc hPc hDc hP hD hS hz1 hvm ht t
      obtain ⟨hP1, hD1⟩ := hJ
      generalize H1 = H at hP1 hS1 ⊢
      have hP : va_P (dC, dI) vwCl [(m0, .inr (8, mdL AM (X8_lossBy_w0 z_26 tb z_27 by_ 4 move))), (AM 0, .inl (cY 0, 72, .inl tb)), (AM 2, .inl (cY 0, 22, .inl (X8_lossBy_w2 z_26 tb z_27 by_ 4 move))), (AM 3, .inl (cY 0, 22, .inl rd)), (AM 4, .inl (cY 0, 110, .inl kp)), (AM 5, .inl (cY 0, 8414, .inl td)), (AM 6, .inl (cY 0, 2, .inl wn)), (AM 13, .inl (cY 0, 4, .inl rw)), (AM 14, .inl (cY 0, 4, .inl br))] H := hP1
      have hD : va_D A [(m0, .inr (8, mdL AM (X8_lossBy_w0 z_26 tb z_27 by_ 4 move))), (AM 0, .inl (cY 0, 72, .inl tb)), (AM 2, .inl (cY 0, 22, .inl (X8_lossBy_w2 z_26 tb z_27 by_ 4 move))), (AM 3, .inl (cY 0, 22, .inl rd)), (AM 4, .inl (cY 0, 110, .inl kp)), (AM 5, .inl (cY 0, 8414, .inl td)), (AM 6, .inl (cY 0, 2, .inl wn)), (AM 13, .inl (cY 0, 4, .inl rw)), (AM 14, .inl (cY 0, 4, .inl br))] := hD1
      have hS := hS1
      clear hP1 hD1 hS1
      obtain ⟨z_29, ez_29⟩ : ∃ z, z = (X8_lossBy_w0 z_26 tb z_27 by_ 4 move) := ⟨_, rfl⟩
      rw [← ez_29] at hP hD
      obtain ⟨z_30, ez_30⟩ : ∃ z, z = (X8_lossBy_w2 z_26 tb z_27 by_ 4 move) := ⟨_, rfl⟩
      rw [← ez_30] at hP hD
      refine lv_istore (lv' := [(4, .int r_28), (3, .int r_25), (0, .ref m0), (1, .int move), (2, .int by_)]) hx hb dX8_punish_45 hl (by decide) rfl (fun ls hl => ?_)
      refine lv_iload_n hx hb dX8_punish_47 rfl (lv_at hl 1 rfl) ?_
      refine lv_iload hx hb dX8_punish_48 (lv_at hl 0 rfl) ?_
      refine jnW (D := (dC, dI)) (ws := [(m0, .inr (8, mdL AM z_29)), (AM 0, .inl (cY 0, 72, .inl tb)), (AM 2, .inl (cY 0, 22, .inl z_30)), (AM 3, .inl (cY 0, 22, .inl rd)), (AM 4, .inl (cY 0, 110, .inl kp)), (AM 5, .inl (cY 0, 8414, .inl td)), (AM 6, .inl (cY 0, 2, .inl wn)), (AM 13, .inl (cY 0, 4, .inl rw)), (AM 14, .inl (cY 0, 4, .inl br))]) (lv := []) (st := [.int (X8_punish_j59 g tb sA by_ move)]) (J := 59) (n := 6) (A := A) (H0 := s.heap) ?_ ?_
      · intro H locs ls hP hD hS hl
        refine lv_istore (lv' := [(5, .int (X8_punish_j59 g tb sA by_ move))]) hx hb dX8_punish_59 hl (by decide) rfl (fun ls hl => ?_)
        refine lv_iload hx hb dX8_punish_61 (lv_at hl 0 rfl) ?_
        refine lv_if_ge (tgt := 70) hx hb dX8_punish_63 (by decide) (fun c_33 => ?_) (fun c_33 => ?_)
        · refine lv_iload hx hb dX8_punish_70 (lv_at hl 0 rfl) ?_
          have eo_34 : (X8_punish_r g tb sA by_ move) = (X8_punish_j59 g tb sA by_ move) := by rw [X8_punish_r]; simp only [← er_25, ← ez_26, ← ez_27, ← er_28, ← ez_29, ← ez_30, eq_false c_3, eq_false c_13, eq_true c_33, ↓reduceIte]
          have eo_35 : (X8_punish_w0 g tb sA by_ move) = z_29 := by rw [X8_punish_w0]; simp only [← er_25, ← ez_26, ← ez_27, ← er_28, ← ez_29, ← ez_30, eq_false c_3, eq_false c_13, ↓reduceIte]
          have eo_36 : (X8_punish_w2 g tb sA by_ move) = z_30 := by rw [X8_punish_w2]; simp only [← er_25, ← ez_26, ← ez_27, ← er_28, ← ez_29, ← ez_30, eq_false c_3, eq_false c_13, ↓reduceIte]
          have hP9 : va_P (dC, dI) vwCl [(m0, .inr (8, mdL AM (X8_punish_w0 g tb sA by_ move))), (AM 0, .inl (cY 0, 72, .inl tb)), (AM 2, .inl (cY 0, 22, .inl (X8_punish_w2 g tb sA by_ move))), (AM 3, .inl (cY 0, 22, .inl rd)), (AM 4, .inl (cY 0, 110, .inl kp)), (AM 5, .inl (cY 0, 8414, .inl td)), (AM 6, .inl (cY 0, 2, .inl wn)), (AM 13, .inl (cY 0, 4, .inl rw)), (AM 14, .inl (cY 0, 4, .inl br))] H := by simp only [eo_35, eo_36]; exact hP
          have hD9 : va_D A [(m0, .inr (8, mdL AM (X8_punish_w0 g tb sA by_ move))), (AM 0, .inl (cY 0, 72, .inl tb)), (AM 2, .inl (cY 0, 22, .inl (X8_punish_w2 g tb sA by_ move))), (AM 3, .inl (cY 0, 22, .inl rd)), (AM 4, .inl (cY 0, 110, .inl kp)), (AM 5, .inl (cY 0, 8414, .inl td)), (AM 6, .inl (cY 0, 2, .inl wn)), (AM 13, .inl (cY 0, 4, .inl rw)), (AM 14, .inl (cY 0, 4, .inl br))] := by simp only [eo_35, eo_36]; exact hD
          exact W.iret (v := (X8_punish_j59 g tb sA by_ move)) hx hb hr (fun t ht hW => ⟨⟨_, (), rfl, eo_34.symm, wPost_of hP9 hD9 ht⟩, hS.F ht⟩) hS.2.2 dX8_punish_72
        · refine lv_iconst (v := 0) hx hb dX8_punish_66 (by decide) ?_
          refine lv_goto (tgt := 72) hx hb dX8_punish_67 (by decide) ?_
          have eo_37 : (X8_punish_r g tb sA by_ move) = 0 := by rw [X8_punish_r]; simp only [← er_25, ← ez_26, ← ez_27, ← er_28, ← ez_29, ← ez_30, eq_false c_3, eq_false c_13, eq_false c_33, ↓reduceIte]
          have eo_38 : (X8_punish_w0 g tb sA by_ move) = z_29 := by rw [X8_punish_w0]; simp only [← er_25, ← ez_26, ← ez_27, ← er_28, ← ez_29, ← ez_30, eq_false c_3, eq_false c_13, ↓reduceIte]
          have eo_39 : (X8_punish_w2 g tb sA by_ move) = z_30 := by rw [X8_punish_w2]; simp only [← er_25, ← ez_26, ← ez_27, ← er_28, ← ez_29, ← ez_30, eq_false c_3, eq_false c_13, ↓reduceIte]
          have hP9 : va_P (dC, dI) vwCl [(m0, .inr (8, mdL AM (X8_punish_w0 g tb sA by_ move))), (AM 0, .inl (cY 0, 72, .inl tb)), (AM 2, .inl (cY 0, 22, .inl (X8_punish_w2 g tb sA by_ move))), (AM 3, .inl (cY 0, 22, .inl rd)), (AM 4, .inl (cY 0, 110, .inl kp)), (AM 5, .inl (cY 0, 8414, .inl td)), (AM 6, .inl (cY 0, 2, .inl wn)), (AM 13, .inl (cY 0, 4, .inl rw)), (AM 14, .inl (cY 0, 4, .inl br))] H := by simp only [eo_38, eo_39]; exact hP
          have hD9 : va_D A [(m0, .inr (8, mdL AM (X8_punish_w0 g tb sA by_ move))), (AM 0, .inl (cY 0, 72, .inl tb)), (AM 2, .inl (cY 0, 22, .inl (X8_punish_w2 g tb sA by_ move))), (AM 3, .inl (cY 0, 22, .inl rd)), (AM 4, .inl (cY 0, 110, .inl kp)), (AM 5, .inl (cY 0, 8414, .inl td)), (AM 6, .inl (cY 0, 2, .inl wn)), (AM 13, .inl (cY 0, 4, .inl rw)), (AM 14, .inl (cY 0, 4, .inl br))] := by simp only [eo_38, eo_39]; exact hD
          exact W.iret (v := 0) hx hb hr (fun t ht hW => ⟨⟨_, (), rfl, eo_37.symm, wPost_of hP9 hD9 ht⟩, hS.F ht⟩) hS.2.2 dX8_punish_72
      · intro jn_32
        refine lv_icmp_ge (tgt := 57) hx hb dX8_punish_50 (by decide) (fun c_31 => ?_) (fun c_31 => ?_)
        · refine lv_iload hx hb dX8_punish_57 (lv_at hl 0 rfl) ?_
          have e_40 : (X8_punish_j59 g tb sA by_ move) = r_28 := by rw [X8_punish_j59]; simp only [← er_25, ← ez_26, ← ez_27, ← er_28, ← ez_29, ← ez_30, eq_true c_31, ↓reduceIte]
          refine W.eq (g2 := F0 m 59 ls [.int (X8_punish_j59 g tb sA by_ move)]) (by simp only [e_40]) ?_
          exact jn_32 _ _ _ (by (try simp only [e_40]); exact hP) (by (try simp only [e_40]); exact hD) hS (by (try simp only [e_40]); exact (lv_sub hl [] rfl))
        · refine lv_iload_n hx hb dX8_punish_53 rfl (lv_at hl 1 rfl) ?_
          refine lv_goto (tgt := 59) hx hb dX8_punish_54 (by decide) ?_
          have e_41 : (X8_punish_j59 g tb sA by_ move) = r_25 := by rw [X8_punish_j59]; simp only [← er_25, ← ez_26, ← ez_27, ← er_28, ← ez_29, ← ez_30, eq_false c_31, ↓reduceIte]
          refine W.eq (g2 := F0 m 59 ls [.int (X8_punish_j59 g tb sA by_ move)]) (by simp only [e_41]) ?_
          exact jn_32 _ _ _ (by (try simp only [e_41]); exact hP) (by (try simp only [e_41]); exact hD) hS (by (try simp only [e_41]); exact (lv_sub hl [] rfl))
theorem inw_X8_noteRow_X8 : ∀ w ∈ u_ws RX8 TX8 17, w ∈ wsX8_noteRow := fun _ h => List.mem_cons_of_mem _ (List.mem_append_right _ h)
def X8_noteRow_w0 (g : Nat → Int32) (sA : Nat → Int32) (many : Int32) : Nat → Int32 := (if (g 15) = 0 then (upd (upd g 16 (1000 - (sA 12))) 15 many) else (if (1000 - (sA 12)) ≤ (g 16) then g else (upd (upd g 16 (1000 - (sA 12))) 15 many)))
def X8_noteRow_w8 (g : Nat → Int32) (sA : Nat → Int32) (rw : Nat → Int32) (br : Nat → Int32) (many : Int32) : Nat → Int32 := (if (g 15) = 0 then (if many ≤ 0 then br else (if many ≤ 1 then (upd br 0 (rw 0)) else (if many ≤ 2 then (upd (upd br 0 (rw 0)) 1 (rw 1)) else (if many ≤ 3 then (upd (upd (upd br 0 (rw 0)) 1 (rw 1)) 2 (rw 2)) else (upd (upd (upd (upd br 0 (rw 0)) 1 (rw 1)) 2 (rw 2)) 3 (rw 3)))))) else (if (1000 - (sA 12)) ≤ (g 16) then br else (if many ≤ 0 then br else (if many ≤ 1 then (upd br 0 (rw 0)) else (if many ≤ 2 then (upd (upd br 0 (rw 0)) 1 (rw 1)) else (if many ≤ 3 then (upd (upd (upd br 0 (rw 0)) 1 (rw 1)) 2 (rw 2)) else (upd (upd (upd (upd br 0 (rw 0)) 1 (rw 1)) 2 (rw 2)) 3 (rw 3))))))))
set_option maxHeartbeats 4000000 in
set_option maxRecDepth 100000 in
theorem c_X8_noteRow (l : Launch) (dC : Nat → ClassId) (dI : Nat → Nat → Nat) (cY : Nat → ClassId) (m0 : Nat) (AM : Nat → Nat) (g : Nat → Int32) (tb : Nat → Int32) (sA : Nat → Int32) (rd : Nat → Int32) (kp : Nat → Int32) (td : Nat → Int32) (wn : Nat → Int32) (rw : Nat → Int32) (br : Nat → Int32) (many : Int32) (hm4 : vp_in many 5) (sz : Nat) : Met l yX8_noteRow wsX8_noteRow ({ frames := 0, cells := 0, slots := 0, locals := 0 } : Room) (va_Pc [.ref m0, .int many] (wPre (dC, dI) (tyL cY) [(m0, .inr (8, mdL AM g)), (AM 0, .inl (cY 0, 72, .inl tb)), (AM 2, .inl (cY 0, 22, .inl sA)), (AM 3, .inl (cY 0, 22, .inl rd)), (AM 4, .inl (cY 0, 110, .inl kp)), (AM 5, .inl (cY 0, 8414, .inl td)), (AM 6, .inl (cY 0, 2, .inl wn)), (AM 13, .inl (cY 0, 4, .inl rw)), (AM 14, .inl (cY 0, 4, .inl br))] sz)) (va_Qv (fun _ : Unit => True) (wPost (dC, dI) [(m0, .inr (8, mdL AM (X8_noteRow_w0 g sA many))), (AM 0, .inl (cY 0, 72, .inl tb)), (AM 2, .inl (cY 0, 22, .inl sA)), (AM 3, .inl (cY 0, 22, .inl rd)), (AM 4, .inl (cY 0, 110, .inl kp)), (AM 5, .inl (cY 0, 8414, .inl td)), (AM 6, .inl (cY 0, 2, .inl wn)), (AM 13, .inl (cY 0, 4, .inl rw)), (AM 14, .inl (cY 0, 4, .inl (X8_noteRow_w8 g sA rw br many)))] (va_A [(m0, .inr (8, mdL AM g)), (AM 0, .inl (cY 0, 72, .inl tb)), (AM 2, .inl (cY 0, 22, .inl sA)), (AM 3, .inl (cY 0, 22, .inl rd)), (AM 4, .inl (cY 0, 110, .inl kp)), (AM 5, .inl (cY 0, 8414, .inl td)), (AM 6, .inl (cY 0, 2, .inl wn)), (AM 13, .inl (cY 0, 4, .inl rw)), (AM 14, .inl (cY 0, 4, .inl br))] sz)) (va_A [(m0, .inr (8, mdL AM g)), (AM 0, .inl (cY 0, 72, .inl tb)), (AM 2, .inl (cY 0, 22, .inl sA)), (AM 3, .inl (cY 0, 22, .inl rd)), (AM 4, .inl (cY 0, 110, .inl kp)), (AM 5, .inl (cY 0, 8414, .inl td)), (AM 6, .inl (cY 0, 2, .inl wn)), (AM 13, .inl (cY 0, 4, .inl rw)), (AM 14, .inl (cY 0, 4, .inl br))] sz)) 0 0 (va_A [(m0, .inr (8, mdL AM g)), (AM 0, .inl (cY 0, 72, .inl tb)), (AM 2, .inl (cY 0, 22, .inl sA)), (AM 3, .inl (cY 0, 22, .inl rd)), (AM 4, .inl (cY 0, 110, .inl kp)), (AM 5, .inl (cY 0, 8414, .inl td)), (AM 6, .inl (cY 0, 2, .inl wn)), (AM 13, .inl (cY 0, 4, .inl rw)), (AM 14, .inl (cY 0, 4, .inl br))] sz) := by
  refine Met.ofW (cc := cX8_noteRow) (maxL := 4) (ret := none) (by decide) rfl ?_
  intro p e s m args below meth c s₁ B hml hv
  obtain ⟨rfl, hsz, hP, hK, hN, hD0⟩ := hv
  have hx := B.exec
  have hb := B.bytes
  have hr := B.returns
  have hts := atoms_spec (ws := wsX8_noteRow) B.pre
  have hown : s.vm.findClass RX8 = some m.cls := findClass_of_methodNamed B.named
  have hlocks := B.notSynchronized
  subst hsz
  have hD := hD0.self (sz := s.heap.size)
  generalize hAe : va_A [(m0, .inr (8, mdL AM g)), (AM 0, .inl (cY 0, 72, .inl tb)), (AM 2, .inl (cY 0, 22, .inl sA)), (AM 3, .inl (cY 0, 22, .inl rd)), (AM 4, .inl (cY 0, 110, .inl kp)), (AM 5, .inl (cY 0, 8414, .inl td)), (AM 6, .inl (cY 0, 2, .inl wn)), (AM 13, .inl (cY 0, 4, .inl rw)), (AM 14, .inl (cY 0, 4, .inl br))] s.heap.size = A at hD ⊢
  have hA : ∀ q : Nat, s.heap.size ≤ q → A q := fun q h => by rw [← hAe]; exact Or.inr h
  have hS : va_S A s.heap s.heap [] := va_S.rf
  have hP : va_P (dC, dI) vwCl [(m0, .inr (8, mdL AM g)), (AM 0, .inl (cY 0, 72, .inl tb)), (AM 2, .inl (cY 0, 22, .inl sA)), (AM 3, .inl (cY 0, 22, .inl rd)), (AM 4, .inl (cY 0, 110, .inl kp)), (AM 5, .inl (cY 0, 8414, .inl td)), (AM 6, .inl (cY 0, 2, .inl wn)), (AM 13, .inl (cY 0, 4, .inl rw)), (AM 14, .inl (cY 0, 4, .inl br))] s.heap := hP
  have hl := lv_entry ([.ref m0, .int many]) (n := 4) (Nat.le_of_ble_eq_true rfl)
  rw [lg_entry_eq]
  generalize (lg_sl ([.ref m0, .int many]) ++ List.replicate (4 - (lg_sl ([.ref m0, .int many])).length) Slot.unset).toArray = ls at hl ⊢
  have hl : lv_has ls 4 [(0, .ref m0), (1, .int many)] := hl
  refine lv_sipush (v := 1000) hx hb dX8_noteRow_0 (by decide) ?_
  refine lv_aload_n hx hb dX8_noteRow_3 rfl (lv_at hl 0 rfl) ?_
  refine va_get (D := (dC, dI)) (ci := 8) (v := .ref (AM 2)) (C := RX8) (T := TX8) (N := 17) hx hb hts inw_X8_noteRow_X8 hown hK hP 0 rfl rfl 2 (by decide) (hts (.fieldLink RX8 13 "DuelFramesModel" "s" "[I") (List.mem_of_getElem? (i := 1) rfl)) (fun _ h9 => h9) rfl dX8_noteRow_4 ?_
  refine lv_bipush (v := 12) hx hb dX8_noteRow_7 (by decide) ?_
  refine va_iald hx hb hK hP 2 0 rfl rfl (vin rfl) dX8_noteRow_9 ?_
  refine lv_topi (fun x_1 ex_1 => ?_)
  obtain rfl : x_1 = (sA 12) := ex_1
  refine lv_isub hx hb dX8_noteRow_10 ?_
  refine lv_istore_n (lv' := [(2, .int (1000 - (sA 12))), (0, .ref m0), (1, .int many)]) hx hb dX8_noteRow_11 rfl hl (by decide) rfl (fun ls hl => ?_)
  refine lv_aload_n hx hb dX8_noteRow_12 rfl (lv_at hl 1 rfl) ?_
  refine va_get (D := (dC, dI)) (ci := 8) (v := .int (g 15)) (C := RX8) (T := TX8) (N := 17) hx hb hts inw_X8_noteRow_X8 hown hK hP 0 rfl rfl 15 (by decide) (hts (.fieldLink RX8 125 "DuelFramesModel" "bestLong" "I") (List.mem_of_getElem? (i := 2) rfl)) (fun _ h9 => h9) rfl dX8_noteRow_13 ?_
  refine lv_if_eq (tgt := 27) hx hb dX8_noteRow_16 (by decide) (fun c_2 => ?_) (fun c_2 => ?_)
  · refine lv_aload_n hx hb dX8_noteRow_27 rfl (lv_at hl 1 rfl) ?_
    refine lv_iload_n hx hb dX8_noteRow_28 rfl (lv_at hl 0 rfl) ?_
    refine va_put (D := (dC, dI)) (ci := 8) (v := .int (1000 - (sA 12))) (ty := .int) (C := RX8) (T := TX8) (N := 17) hx hb hts inw_X8_noteRow_X8 tyX8 tyX8_ok nmX8 hown hK hP hD hS 0 rfl rfl 16 (by decide) (hts (.fieldLink RX8 128 "DuelFramesModel" "bestLoss" "I") (List.mem_of_getElem? (i := 3) rfl)) (fun _ h9 => h9) rfl (by decide +kernel) rfl rfl (Nat.le_of_ble_eq_true rfl) dX8_noteRow_29 (fun H locs hP1 hD1 hS1 => ?_)
    clear hP hD hS
    have hP : va_P (dC, dI) vwCl [(m0, .inr (8, mdL AM (upd g 16 (1000 - (sA 12))))), (AM 0, .inl (cY 0, 72, .inl tb)), (AM 2, .inl (cY 0, 22, .inl sA)), (AM 3, .inl (cY 0, 22, .inl rd)), (AM 4, .inl (cY 0, 110, .inl kp)), (AM 5, .inl (cY 0, 8414, .inl td)), (AM 6, .inl (cY 0, 2, .inl wn)), (AM 13, .inl (cY 0, 4, .inl rw)), (AM 14, .inl (cY 0, 4, .inl br))] H := hP1
    have hD : va_D A [(m0, .inr (8, mdL AM (upd g 16 (1000 - (sA 12))))), (AM 0, .inl (cY 0, 72, .inl tb)), (AM 2, .inl (cY 0, 22, .inl sA)), (AM 3, .inl (cY 0, 22, .inl rd)), (AM 4, .inl (cY 0, 110, .inl kp)), (AM 5, .inl (cY 0, 8414, .inl td)), (AM 6, .inl (cY 0, 2, .inl wn)), (AM 13, .inl (cY 0, 4, .inl rw)), (AM 14, .inl (cY 0, 4, .inl br))] := hD1
    have hS := hS1
    clear hP1 hD1 hS1
    refine lv_aload_n hx hb dX8_noteRow_32 rfl (lv_at hl 1 rfl) ?_
    refine lv_iload_n hx hb dX8_noteRow_33 rfl (lv_at hl 2 rfl) ?_
    refine va_put (D := (dC, dI)) (ci := 8) (v := .int many) (ty := .int) (C := RX8) (T := TX8) (N := 17) hx hb hts inw_X8_noteRow_X8 tyX8 tyX8_ok nmX8 hown hK hP hD hS 0 rfl rfl 15 (by decide) (hts (.fieldLink RX8 125 "DuelFramesModel" "bestLong" "I") (List.mem_of_getElem? (i := 2) rfl)) (fun _ h9 => h9) rfl (by decide +kernel) rfl rfl (Nat.le_of_ble_eq_true rfl) dX8_noteRow_34 (fun H locs hP1 hD1 hS1 => ?_)
    clear hP hD hS
    have hP : va_P (dC, dI) vwCl [(m0, .inr (8, mdL AM (upd (upd g 16 (1000 - (sA 12))) 15 many))), (AM 0, .inl (cY 0, 72, .inl tb)), (AM 2, .inl (cY 0, 22, .inl sA)), (AM 3, .inl (cY 0, 22, .inl rd)), (AM 4, .inl (cY 0, 110, .inl kp)), (AM 5, .inl (cY 0, 8414, .inl td)), (AM 6, .inl (cY 0, 2, .inl wn)), (AM 13, .inl (cY 0, 4, .inl rw)), (AM 14, .inl (cY 0, 4, .inl br))] H := hP1
    have hD : va_D A [(m0, .inr (8, mdL AM (upd (upd g 16 (1000 - (sA 12))) 15 many))), (AM 0, .inl (cY 0, 72, .inl tb)), (AM 2, .inl (cY 0, 22, .inl sA)), (AM 3, .inl (cY 0, 22, .inl rd)), (AM 4, .inl (cY 0, 110, .inl kp)), (AM 5, .inl (cY 0, 8414, .inl td)), (AM 6, .inl (cY 0, 2, .inl wn)), (AM 13, .inl (cY 0, 4, .inl rw)), (AM 14, .inl (cY 0, 4, .inl br))] := hD1
    have hS := hS1
    clear hP1 hD1 hS1
    refine lv_iconst (v := 0) hx hb dX8_noteRow_37 (by decide) ?_
    refine lv_istore_n (lv' := [(3, .int 0), (2, .int (1000 - (sA 12))), (0, .ref m0), (1, .int many)]) hx hb dX8_noteRow_38 rfl hl (by decide) rfl (fun ls hl => ?_)
    refine lv_iload_n hx hb dX8_noteRow_39 rfl (lv_at hl 0 rfl) ?_
    refine lv_iload_n hx hb dX8_noteRow_40 rfl (lv_at hl 3 rfl) ?_
    refine lv_icmp_ge (tgt := 62) hx hb dX8_noteRow_41 (by decide) (fun c_3 => ?_) (fun c_3 => ?_)
    · have eo_4 : (X8_noteRow_w0 g sA many) = (upd (upd g 16 (1000 - (sA 12))) 15 many) := by rw [X8_noteRow_w0]; simp only [eq_true c_2, ↓reduceIte]
      have eo_5 : (X8_noteRow_w8 g sA rw br many) = br := by rw [X8_noteRow_w8]; simp only [eq_true c_2, eq_true c_3, ↓reduceIte]
      have hP9 : va_P (dC, dI) vwCl [(m0, .inr (8, mdL AM (X8_noteRow_w0 g sA many))), (AM 0, .inl (cY 0, 72, .inl tb)), (AM 2, .inl (cY 0, 22, .inl sA)), (AM 3, .inl (cY 0, 22, .inl rd)), (AM 4, .inl (cY 0, 110, .inl kp)), (AM 5, .inl (cY 0, 8414, .inl td)), (AM 6, .inl (cY 0, 2, .inl wn)), (AM 13, .inl (cY 0, 4, .inl rw)), (AM 14, .inl (cY 0, 4, .inl (X8_noteRow_w8 g sA rw br many)))] H := by simp only [eo_4, eo_5]; exact hP
      have hD9 : va_D A [(m0, .inr (8, mdL AM (X8_noteRow_w0 g sA many))), (AM 0, .inl (cY 0, 72, .inl tb)), (AM 2, .inl (cY 0, 22, .inl sA)), (AM 3, .inl (cY 0, 22, .inl rd)), (AM 4, .inl (cY 0, 110, .inl kp)), (AM 5, .inl (cY 0, 8414, .inl td)), (AM 6, .inl (cY 0, 2, .inl wn)), (AM 13, .inl (cY 0, 4, .inl rw)), (AM 14, .inl (cY 0, 4, .inl (X8_noteRow_w8 g sA rw br many)))] := by simp only [eo_4, eo_5]; exact hD
      exact W.vret hx hb hr (fun t ht hW => ⟨⟨(), rfl, trivial, wPost_of hP9 hD9 ht⟩, hS.F ht⟩) hS.2.2 dX8_noteRow_62
    · refine lv_aload_n hx hb dX8_noteRow_44 rfl (lv_at hl 2 rfl) ?_
      refine va_get (D := (dC, dI)) (ci := 8) (v := .ref (AM 14)) (C := RX8) (T := TX8) (N := 17) hx hb hts inw_X8_noteRow_X8 hown hK hP 0 rfl rfl 14 (by decide) (hts (.fieldLink RX8 38 "DuelFramesModel" "bestRow" "[I") (List.mem_of_getElem? (i := 4) rfl)) (fun _ h9 => h9) rfl dX8_noteRow_45 ?_
      refine lv_iload_n hx hb dX8_noteRow_48 rfl (lv_at hl 0 rfl) ?_
      refine lv_aload_n hx hb dX8_noteRow_49 rfl (lv_at hl 2 rfl) ?_
      refine va_get (D := (dC, dI)) (ci := 8) (v := .ref (AM 13)) (C := RX8) (T := TX8) (N := 17) hx hb hts inw_X8_noteRow_X8 hown hK hP 0 rfl rfl 13 (by decide) (hts (.fieldLink RX8 35 "DuelFramesModel" "row" "[I") (List.mem_of_getElem? (i := 5) rfl)) (fun _ h9 => h9) rfl dX8_noteRow_50 ?_
      refine lv_iload_n hx hb dX8_noteRow_53 rfl (lv_at hl 0 rfl) ?_
      refine va_iald hx hb hK hP 7 0 rfl rfl (vin rfl) dX8_noteRow_54 ?_
      refine lv_topi (fun x_6 ex_6 => ?_)
      obtain rfl : x_6 = (rw 0) := ex_6
      refine va_iast hx hb hK hP hD hS 8 0 rfl rfl (vin rfl) dX8_noteRow_55 (fun H locs hP1 hD1 hS1 => ?_)
      clear hP hD hS
      have hP : va_P (dC, dI) vwCl [(m0, .inr (8, mdL AM (upd (upd g 16 (1000 - (sA 12))) 15 many))), (AM 0, .inl (cY 0, 72, .inl tb)), (AM 2, .inl (cY 0, 22, .inl sA)), (AM 3, .inl (cY 0, 22, .inl rd)), (AM 4, .inl (cY 0, 110, .inl kp)), (AM 5, .inl (cY 0, 8414, .inl td)), (AM 6, .inl (cY 0, 2, .inl wn)), (AM 13, .inl (cY 0, 4, .inl rw)), (AM 14, .inl (cY 0, 4, .inl (upd br 0 (rw 0))))] H := hP1
      have hD : va_D A [(m0, .inr (8, mdL AM (upd (upd g 16 (1000 - (sA 12))) 15 many))), (AM 0, .inl (cY 0, 72, .inl tb)), (AM 2, .inl (cY 0, 22, .inl sA)), (AM 3, .inl (cY 0, 22, .inl rd)), (AM 4, .inl (cY 0, 110, .inl kp)), (AM 5, .inl (cY 0, 8414, .inl td)), (AM 6, .inl (cY 0, 2, .inl wn)), (AM 13, .inl (cY 0, 4, .inl rw)), (AM 14, .inl (cY 0, 4, .inl (upd br 0 (rw 0))))] := hD1
      have hS := hS1
      clear hP1 hD1 hS1
      refine lv_iinc (v := 1) (lv' := [(3, .int 1), (2, .int (1000 - (sA 12))), (0, .ref m0), (1, .int many)]) hx hb dX8_noteRow_56 hl (k := 0) rfl (by first | rfl | decide) (by decide) rfl (fun ls hl => ?_)
      refine lv_goto (tgt := 39) hx hb dX8_noteRow_59 (by decide) ?_
      refine lv_iload_n hx hb dX8_noteRow_39 rfl (lv_at hl 0 rfl) ?_
      refine lv_iload_n hx hb dX8_noteRow_40 rfl (lv_at hl 3 rfl) ?_
      refine lv_icmp_ge (tgt := 62) hx hb dX8_noteRow_41 (by decide) (fun c_7 => ?_) (fun c_7 => ?_)
      · have eo_8 : (X8_noteRow_w0 g sA many) = (upd (upd g 16 (1000 - (sA 12))) 15 many) := by rw [X8_noteRow_w0]; simp only [eq_true c_2, ↓reduceIte]
        have eo_9 : (X8_noteRow_w8 g sA rw br many) = (upd br 0 (rw 0)) := by rw [X8_noteRow_w8]; simp only [eq_true c_2, eq_false c_3, eq_true c_7, ↓reduceIte]
        have hP9 : va_P (dC, dI) vwCl [(m0, .inr (8, mdL AM (X8_noteRow_w0 g sA many))), (AM 0, .inl (cY 0, 72, .inl tb)), (AM 2, .inl (cY 0, 22, .inl sA)), (AM 3, .inl (cY 0, 22, .inl rd)), (AM 4, .inl (cY 0, 110, .inl kp)), (AM 5, .inl (cY 0, 8414, .inl td)), (AM 6, .inl (cY 0, 2, .inl wn)), (AM 13, .inl (cY 0, 4, .inl rw)), (AM 14, .inl (cY 0, 4, .inl (X8_noteRow_w8 g sA rw br many)))] H := by simp only [eo_8, eo_9]; exact hP
        have hD9 : va_D A [(m0, .inr (8, mdL AM (X8_noteRow_w0 g sA many))), (AM 0, .inl (cY 0, 72, .inl tb)), (AM 2, .inl (cY 0, 22, .inl sA)), (AM 3, .inl (cY 0, 22, .inl rd)), (AM 4, .inl (cY 0, 110, .inl kp)), (AM 5, .inl (cY 0, 8414, .inl td)), (AM 6, .inl (cY 0, 2, .inl wn)), (AM 13, .inl (cY 0, 4, .inl rw)), (AM 14, .inl (cY 0, 4, .inl (X8_noteRow_w8 g sA rw br many)))] := by simp only [eo_8, eo_9]; exact hD
        exact W.vret hx hb hr (fun t ht hW => ⟨⟨(), rfl, trivial, wPost_of hP9 hD9 ht⟩, hS.F ht⟩) hS.2.2 dX8_noteRow_62
      · refine lv_aload_n hx hb dX8_noteRow_44 rfl (lv_at hl 2 rfl) ?_
        refine va_get (D := (dC, dI)) (ci := 8) (v := .ref (AM 14)) (C := RX8) (T := TX8) (N := 17) hx hb hts inw_X8_noteRow_X8 hown hK hP 0 rfl rfl 14 (by decide) (hts (.fieldLink RX8 38 "DuelFramesModel" "bestRow" "[I") (List.mem_of_getElem? (i := 4) rfl)) (fun _ h9 => h9) rfl dX8_noteRow_45 ?_
        refine lv_iload_n hx hb dX8_noteRow_48 rfl (lv_at hl 0 rfl) ?_
        refine lv_aload_n hx hb dX8_noteRow_49 rfl (lv_at hl 2 rfl) ?_
        refine va_get (D := (dC, dI)) (ci := 8) (v := .ref (AM 13)) (C := RX8) (T := TX8) (N := 17) hx hb hts inw_X8_noteRow_X8 hown hK hP 0 rfl rfl 13 (by decide) (hts (.fieldLink RX8 35 "DuelFramesModel" "row" "[I") (List.mem_of_getElem? (i := 5) rfl)) (fun _ h9 => h9) rfl dX8_noteRow_50 ?_
        refine lv_iload_n hx hb dX8_noteRow_53 rfl (lv_at hl 0 rfl) ?_
        refine va_iald hx hb hK hP 7 0 rfl rfl (vin rfl) dX8_noteRow_54 ?_
        refine lv_topi (fun x_10 ex_10 => ?_)
        obtain rfl : x_10 = (rw 1) := ex_10
        refine va_iast hx hb hK hP hD hS 8 0 rfl rfl (vin rfl) dX8_noteRow_55 (fun H locs hP1 hD1 hS1 => ?_)
        clear hP hD hS
        have hP : va_P (dC, dI) vwCl [(m0, .inr (8, mdL AM (upd (upd g 16 (1000 - (sA 12))) 15 many))), (AM 0, .inl (cY 0, 72, .inl tb)), (AM 2, .inl (cY 0, 22, .inl sA)), (AM 3, .inl (cY 0, 22, .inl rd)), (AM 4, .inl (cY 0, 110, .inl kp)), (AM 5, .inl (cY 0, 8414, .inl td)), (AM 6, .inl (cY 0, 2, .inl wn)), (AM 13, .inl (cY 0, 4, .inl rw)), (AM 14, .inl (cY 0, 4, .inl (upd (upd br 0 (rw 0)) 1 (rw 1))))] H := hP1
        have hD : va_D A [(m0, .inr (8, mdL AM (upd (upd g 16 (1000 - (sA 12))) 15 many))), (AM 0, .inl (cY 0, 72, .inl tb)), (AM 2, .inl (cY 0, 22, .inl sA)), (AM 3, .inl (cY 0, 22, .inl rd)), (AM 4, .inl (cY 0, 110, .inl kp)), (AM 5, .inl (cY 0, 8414, .inl td)), (AM 6, .inl (cY 0, 2, .inl wn)), (AM 13, .inl (cY 0, 4, .inl rw)), (AM 14, .inl (cY 0, 4, .inl (upd (upd br 0 (rw 0)) 1 (rw 1))))] := hD1
        have hS := hS1
        clear hP1 hD1 hS1
        refine lv_iinc (v := 2) (lv' := [(3, .int 2), (2, .int (1000 - (sA 12))), (0, .ref m0), (1, .int many)]) hx hb dX8_noteRow_56 hl (k := 0) rfl (by first | rfl | decide) (by decide) rfl (fun ls hl => ?_)
        refine lv_goto (tgt := 39) hx hb dX8_noteRow_59 (by decide) ?_
        refine lv_iload_n hx hb dX8_noteRow_39 rfl (lv_at hl 0 rfl) ?_
        refine lv_iload_n hx hb dX8_noteRow_40 rfl (lv_at hl 3 rfl) ?_
        refine lv_icmp_ge (tgt := 62) hx hb dX8_noteRow_41 (by decide) (fun c_11 => ?_) (fun c_11 => ?_)
        · have eo_12 : (X8_noteRow_w0 g sA many) = (upd (upd g 16 (1000 - (sA 12))) 15 many) := by rw [X8_noteRow_w0]; simp only [eq_true c_2, ↓reduceIte]
          have eo_13 : (X8_noteRow_w8 g sA rw br many) = (upd (upd br 0 (rw 0)) 1 (rw 1)) := by rw [X8_noteRow_w8]; simp only [eq_true c_2, eq_false c_3, eq_false c_7, eq_true c_11, ↓reduceIte]
          have hP9 : va_P (dC, dI) vwCl [(m0, .inr (8, mdL AM (X8_noteRow_w0 g sA many))), (AM 0, .inl (cY 0, 72, .inl tb)), (AM 2, .inl (cY 0, 22, .inl sA)), (AM 3, .inl (cY 0, 22, .inl rd)), (AM 4, .inl (cY 0, 110, .inl kp)), (AM 5, .inl (cY 0, 8414, .inl td)), (AM 6, .inl (cY 0, 2, .inl wn)), (AM 13, .inl (cY 0, 4, .inl rw)), (AM 14, .inl (cY 0, 4, .inl (X8_noteRow_w8 g sA rw br many)))] H := by simp only [eo_12, eo_13]; exact hP
          have hD9 : va_D A [(m0, .inr (8, mdL AM (X8_noteRow_w0 g sA many))), (AM 0, .inl (cY 0, 72, .inl tb)), (AM 2, .inl (cY 0, 22, .inl sA)), (AM 3, .inl (cY 0, 22, .inl rd)), (AM 4, .inl (cY 0, 110, .inl kp)), (AM 5, .inl (cY 0, 8414, .inl td)), (AM 6, .inl (cY 0, 2, .inl wn)), (AM 13, .inl (cY 0, 4, .inl rw)), (AM 14, .inl (cY 0, 4, .inl (X8_noteRow_w8 g sA rw br many)))] := by simp only [eo_12, eo_13]; exact hD
          exact W.vret hx hb hr (fun t ht hW => ⟨⟨(), rfl, trivial, wPost_of hP9 hD9 ht⟩, hS.F ht⟩) hS.2.2 dX8_noteRow_62
        · refine lv_aload_n hx hb dX8_noteRow_44 rfl (lv_at hl 2 rfl) ?_
          refine va_get (D := (dC, dI)) (ci := 8) (v := .ref (AM 14)) (C := RX8) (T := TX8) (N := 17) hx hb hts inw_X8_noteRow_X8 hown hK hP 0 rfl rfl 14 (by decide) (hts (.fieldLink RX8 38 "DuelFramesModel" "bestRow" "[I") (List.mem_of_getElem? (i := 4) rfl)) (fun _ h9 => h9) rfl dX8_noteRow_45 ?_
          refine lv_iload_n hx hb dX8_noteRow_48 rfl (lv_at hl 0 rfl) ?_
          refine lv_aload_n hx hb dX8_noteRow_49 rfl (lv_at hl 2 rfl) ?_
          refine va_get (D := (dC, dI)) (ci := 8) (v := .ref (AM 13)) (C := RX8) (T := TX8) (N := 17) hx hb hts inw_X8_noteRow_X8 hown hK hP 0 rfl rfl 13 (by decide) (hts (.fieldLink RX8 35 "DuelFramesModel" "row" "[I") (List.mem_of_getElem? (i := 5) rfl)) (fun _ h9 => h9) rfl dX8_noteRow_50 ?_
          refine lv_iload_n hx hb dX8_noteRow_53 rfl (lv_at hl 0 rfl) ?_
          refine va_iald hx hb hK hP 7 0 rfl rfl (vin rfl) dX8_noteRow_54 ?_
          refine lv_topi (fun x_14 ex_14 => ?_)
          obtain rfl : x_14 = (rw 2) := ex_14
          refine va_iast hx hb hK hP hD hS 8 0 rfl rfl (vin rfl) dX8_noteRow_55 (fun H locs hP1 hD1 hS1 => ?_)
          clear hP hD hS
          have hP : va_P (dC, dI) vwCl [(m0, .inr (8, mdL AM (upd (upd g 16 (1000 - (sA 12))) 15 many))), (AM 0, .inl (cY 0, 72, .inl tb)), (AM 2, .inl (cY 0, 22, .inl sA)), (AM 3, .inl (cY 0, 22, .inl rd)), (AM 4, .inl (cY 0, 110, .inl kp)), (AM 5, .inl (cY 0, 8414, .inl td)), (AM 6, .inl (cY 0, 2, .inl wn)), (AM 13, .inl (cY 0, 4, .inl rw)), (AM 14, .inl (cY 0, 4, .inl (upd (upd (upd br 0 (rw 0)) 1 (rw 1)) 2 (rw 2))))] H := hP1
          have hD : va_D A [(m0, .inr (8, mdL AM (upd (upd g 16 (1000 - (sA 12))) 15 many))), (AM 0, .inl (cY 0, 72, .inl tb)), (AM 2, .inl (cY 0, 22, .inl sA)), (AM 3, .inl (cY 0, 22, .inl rd)), (AM 4, .inl (cY 0, 110, .inl kp)), (AM 5, .inl (cY 0, 8414, .inl td)), (AM 6, .inl (cY 0, 2, .inl wn)), (AM 13, .inl (cY 0, 4, .inl rw)), (AM 14, .inl (cY 0, 4, .inl (upd (upd (upd br 0 (rw 0)) 1 (rw 1)) 2 (rw 2))))] := hD1
          have hS := hS1
          clear hP1 hD1 hS1
          refine lv_iinc (v := 3) (lv' := [(3, .int 3), (2, .int (1000 - (sA 12))), (0, .ref m0), (1, .int many)]) hx hb dX8_noteRow_56 hl (k := 0) rfl (by first | rfl | decide) (by decide) rfl (fun ls hl => ?_)
          refine lv_goto (tgt := 39) hx hb dX8_noteRow_59 (by decide) ?_
          refine lv_iload_n hx hb dX8_noteRow_39 rfl (lv_at hl 0 rfl) ?_
          refine lv_iload_n hx hb dX8_noteRow_40 rfl (lv_at hl 3 rfl) ?_
          refine lv_icmp_ge (tgt := 62) hx hb dX8_noteRow_41 (by decide) (fun c_15 => ?_) (fun c_15 => ?_)
          · have eo_16 : (X8_noteRow_w0 g sA many) = (upd (upd g 16 (1000 - (sA 12))) 15 many) := by rw [X8_noteRow_w0]; simp only [eq_true c_2, ↓reduceIte]
            have eo_17 : (X8_noteRow_w8 g sA rw br many) = (upd (upd (upd br 0 (rw 0)) 1 (rw 1)) 2 (rw 2)) := by rw [X8_noteRow_w8]; simp only [eq_true c_2, eq_false c_3, eq_false c_7, eq_false c_11, eq_true c_15, ↓reduceIte]
            have hP9 : va_P (dC, dI) vwCl [(m0, .inr (8, mdL AM (X8_noteRow_w0 g sA many))), (AM 0, .inl (cY 0, 72, .inl tb)), (AM 2, .inl (cY 0, 22, .inl sA)), (AM 3, .inl (cY 0, 22, .inl rd)), (AM 4, .inl (cY 0, 110, .inl kp)), (AM 5, .inl (cY 0, 8414, .inl td)), (AM 6, .inl (cY 0, 2, .inl wn)), (AM 13, .inl (cY 0, 4, .inl rw)), (AM 14, .inl (cY 0, 4, .inl (X8_noteRow_w8 g sA rw br many)))] H := by simp only [eo_16, eo_17]; exact hP
            have hD9 : va_D A [(m0, .inr (8, mdL AM (X8_noteRow_w0 g sA many))), (AM 0, .inl (cY 0, 72, .inl tb)), (AM 2, .inl (cY 0, 22, .inl sA)), (AM 3, .inl (cY 0, 22, .inl rd)), (AM 4, .inl (cY 0, 110, .inl kp)), (AM 5, .inl (cY 0, 8414, .inl td)), (AM 6, .inl (cY 0, 2, .inl wn)), (AM 13, .inl (cY 0, 4, .inl rw)), (AM 14, .inl (cY 0, 4, .inl (X8_noteRow_w8 g sA rw br many)))] := by simp only [eo_16, eo_17]; exact hD
            exact W.vret hx hb hr (fun t ht hW => ⟨⟨(), rfl, trivial, wPost_of hP9 hD9 ht⟩, hS.F ht⟩) hS.2.2 dX8_noteRow_62
          · refine lv_aload_n hx hb dX8_noteRow_44 rfl (lv_at hl 2 rfl) ?_
            refine va_get (D := (dC, dI)) (ci := 8) (v := .ref (AM 14)) (C := RX8) (T := TX8) (N := 17) hx hb hts inw_X8_noteRow_X8 hown hK hP 0 rfl rfl 14 (by decide) (hts (.fieldLink RX8 38 "DuelFramesModel" "bestRow" "[I") (List.mem_of_getElem? (i := 4) rfl)) (fun _ h9 => h9) rfl dX8_noteRow_45 ?_
            refine lv_iload_n hx hb dX8_noteRow_48 rfl (lv_at hl 0 rfl) ?_
            refine lv_aload_n hx hb dX8_noteRow_49 rfl (lv_at hl 2 rfl) ?_
            refine va_get (D := (dC, dI)) (ci := 8) (v := .ref (AM 13)) (C := RX8) (T := TX8) (N := 17) hx hb hts inw_X8_noteRow_X8 hown hK hP 0 rfl rfl 13 (by decide) (hts (.fieldLink RX8 35 "DuelFramesModel" "row" "[I") (List.mem_of_getElem? (i := 5) rfl)) (fun _ h9 => h9) rfl dX8_noteRow_50 ?_
            refine lv_iload_n hx hb dX8_noteRow_53 rfl (lv_at hl 0 rfl) ?_
            refine va_iald hx hb hK hP 7 0 rfl rfl (vin rfl) dX8_noteRow_54 ?_
            refine lv_topi (fun x_18 ex_18 => ?_)
            obtain rfl : x_18 = (rw 3) := ex_18
            refine va_iast hx hb hK hP hD hS 8 0 rfl rfl (vin rfl) dX8_noteRow_55 (fun H locs hP1 hD1 hS1 => ?_)
            clear hP hD hS
            have hP : va_P (dC, dI) vwCl [(m0, .inr (8, mdL AM (upd (upd g 16 (1000 - (sA 12))) 15 many))), (AM 0, .inl (cY 0, 72, .inl tb)), (AM 2, .inl (cY 0, 22, .inl sA)), (AM 3, .inl (cY 0, 22, .inl rd)), (AM 4, .inl (cY 0, 110, .inl kp)), (AM 5, .inl (cY 0, 8414, .inl td)), (AM 6, .inl (cY 0, 2, .inl wn)), (AM 13, .inl (cY 0, 4, .inl rw)), (AM 14, .inl (cY 0, 4, .inl (upd (upd (upd (upd br 0 (rw 0)) 1 (rw 1)) 2 (rw 2)) 3 (rw 3))))] H := hP1
            have hD : va_D A [(m0, .inr (8, mdL AM (upd (upd g 16 (1000 - (sA 12))) 15 many))), (AM 0, .inl (cY 0, 72, .inl tb)), (AM 2, .inl (cY 0, 22, .inl sA)), (AM 3, .inl (cY 0, 22, .inl rd)), (AM 4, .inl (cY 0, 110, .inl kp)), (AM 5, .inl (cY 0, 8414, .inl td)), (AM 6, .inl (cY 0, 2, .inl wn)), (AM 13, .inl (cY 0, 4, .inl rw)), (AM 14, .inl (cY 0, 4, .inl (upd (upd (upd (upd br 0 (rw 0)) 1 (rw 1)) 2 (rw 2)) 3 (rw 3))))] := hD1
            have hS := hS1
            clear hP1 hD1 hS1
            refine lv_iinc (v := 4) (lv' := [(3, .int 4), (2, .int (1000 - (sA 12))), (0, .ref m0), (1, .int many)]) hx hb dX8_noteRow_56 hl (k := 0) rfl (by first | rfl | decide) (by decide) rfl (fun ls hl => ?_)
            refine lv_goto (tgt := 39) hx hb dX8_noteRow_59 (by decide) ?_
            refine lv_iload_n hx hb dX8_noteRow_39 rfl (lv_at hl 0 rfl) ?_
            refine lv_iload_n hx hb dX8_noteRow_40 rfl (lv_at hl 3 rfl) ?_
            refine lv_icmp_ge (tgt := 62) hx hb dX8_noteRow_41 (by decide) (fun c_19 => ?_) (fun c_19 => ?_)
            rotate_left
            · exact absurd (vp_le4 hm4) c_19
            have eo_20 : (X8_noteRow_w0 g sA many) = (upd (upd g 16 (1000 - (sA 12))) 15 many) := by rw [X8_noteRow_w0]; simp only [eq_true c_2, ↓reduceIte]
            have eo_21 : (X8_noteRow_w8 g sA rw br many) = (upd (upd (upd (upd br 0 (rw 0)) 1 (rw 1)) 2 (rw 2)) 3 (rw 3)) := by rw [X8_noteRow_w8]; simp only [eq_true c_2, eq_false c_3, eq_false c_7, eq_false c_11, eq_false c_15, ↓reduceIte]
            have hP9 : va_P (dC, dI) vwCl [(m0, .inr (8, mdL AM (X8_noteRow_w0 g sA many))), (AM 0, .inl (cY 0, 72, .inl tb)), (AM 2, .inl (cY 0, 22, .inl sA)), (AM 3, .inl (cY 0, 22, .inl rd)), (AM 4, .inl (cY 0, 110, .inl kp)), (AM 5, .inl (cY 0, 8414, .inl td)), (AM 6, .inl (cY 0, 2, .inl wn)), (AM 13, .inl (cY 0, 4, .inl rw)), (AM 14, .inl (cY 0, 4, .inl (X8_noteRow_w8 g sA rw br many)))] H := by simp only [eo_20, eo_21]; exact hP
            have hD9 : va_D A [(m0, .inr (8, mdL AM (X8_noteRow_w0 g sA many))), (AM 0, .inl (cY 0, 72, .inl tb)), (AM 2, .inl (cY 0, 22, .inl sA)), (AM 3, .inl (cY 0, 22, .inl rd)), (AM 4, .inl (cY 0, 110, .inl kp)), (AM 5, .inl (cY 0, 8414, .inl td)), (AM 6, .inl (cY 0, 2, .inl wn)), (AM 13, .inl (cY 0, 4, .inl rw)), (AM 14, .inl (cY 0, 4, .inl (X8_noteRow_w8 g sA rw br many)))] := by simp only [eo_20, eo_21]; exact hD
            exact W.vret hx hb hr (fun t ht hW => ⟨⟨(), rfl, trivial, wPost_of hP9 hD9 ht⟩, hS.F ht⟩) hS.2.2 dX8_noteRow_62
  · refine lv_iload_n hx hb dX8_noteRow_19 rfl (lv_at hl 0 rfl) ?_
    refine lv_aload_n hx hb dX8_noteRow_20 rfl (lv_at hl 1 rfl) ?_
    refine va_get (D := (dC, dI)) (ci := 8) (v := .int (g 16)) (C := RX8) (T := TX8) (N := 17) hx hb hts inw_X8_noteRow_X8 hown hK hP 0 rfl rfl 16 (by decide) (hts (.fieldLink RX8 128 "DuelFramesModel" "bestLoss" "I") (List.mem_of_getElem? (i := 3) rfl)) (fun _ h9 => h9) rfl dX8_noteRow_21 ?_
    refine lv_icmp_le (tgt := 62) hx hb dX8_noteRow_24 (by decide) (fun c_22 => ?_) (fun c_22 => ?_)
    · have eo_23 : (X8_noteRow_w0 g sA many) = g := by rw [X8_noteRow_w0]; simp only [eq_false c_2, eq_true c_22, ↓reduceIte]
      have eo_24 : (X8_noteRow_w8 g sA rw br many) = br := by rw [X8_noteRow_w8]; simp only [eq_false c_2, eq_true c_22, ↓reduceIte]
      have hP9 : va_P (dC, dI) vwCl [(m0, .inr (8, mdL AM (X8_noteRow_w0 g sA many))), (AM 0, .inl (cY 0, 72, .inl tb)), (AM 2, .inl (cY 0, 22, .inl sA)), (AM 3, .inl (cY 0, 22, .inl rd)), (AM 4, .inl (cY 0, 110, .inl kp)), (AM 5, .inl (cY 0, 8414, .inl td)), (AM 6, .inl (cY 0, 2, .inl wn)), (AM 13, .inl (cY 0, 4, .inl rw)), (AM 14, .inl (cY 0, 4, .inl (X8_noteRow_w8 g sA rw br many)))] s.heap := by simp only [eo_23, eo_24]; exact hP
      have hD9 : va_D A [(m0, .inr (8, mdL AM (X8_noteRow_w0 g sA many))), (AM 0, .inl (cY 0, 72, .inl tb)), (AM 2, .inl (cY 0, 22, .inl sA)), (AM 3, .inl (cY 0, 22, .inl rd)), (AM 4, .inl (cY 0, 110, .inl kp)), (AM 5, .inl (cY 0, 8414, .inl td)), (AM 6, .inl (cY 0, 2, .inl wn)), (AM 13, .inl (cY 0, 4, .inl rw)), (AM 14, .inl (cY 0, 4, .inl (X8_noteRow_w8 g sA rw br many)))] := by simp only [eo_23, eo_24]; exact hD
      exact W.vret hx hb hr (fun t ht hW => ⟨⟨(), rfl, trivial, wPost_of hP9 hD9 ht⟩, hS.F ht⟩) hS.2.2 dX8_noteRow_62
    · refine lv_aload_n hx hb dX8_noteRow_27 rfl (lv_at hl 1 rfl) ?_
      refine lv_iload_n hx hb dX8_noteRow_28 rfl (lv_at hl 0 rfl) ?_
      refine va_put (D := (dC, dI)) (ci := 8) (v := .int (1000 - (sA 12))) (ty := .int) (C := RX8) (T := TX8) (N := 17) hx hb hts inw_X8_noteRow_X8 tyX8 tyX8_ok nmX8 hown hK hP hD hS 0 rfl rfl 16 (by decide) (hts (.fieldLink RX8 128 "DuelFramesModel" "bestLoss" "I") (List.mem_of_getElem? (i := 3) rfl)) (fun _ h9 => h9) rfl (by decide +kernel) rfl rfl (Nat.le_of_ble_eq_true rfl) dX8_noteRow_29 (fun H locs hP1 hD1 hS1 => ?_)
      clear hP hD hS
      have hP : va_P (dC, dI) vwCl [(m0, .inr (8, mdL AM (upd g 16 (1000 - (sA 12))))), (AM 0, .inl (cY 0, 72, .inl tb)), (AM 2, .inl (cY 0, 22, .inl sA)), (AM 3, .inl (cY 0, 22, .inl rd)), (AM 4, .inl (cY 0, 110, .inl kp)), (AM 5, .inl (cY 0, 8414, .inl td)), (AM 6, .inl (cY 0, 2, .inl wn)), (AM 13, .inl (cY 0, 4, .inl rw)), (AM 14, .inl (cY 0, 4, .inl br))] H := hP1
      have hD : va_D A [(m0, .inr (8, mdL AM (upd g 16 (1000 - (sA 12))))), (AM 0, .inl (cY 0, 72, .inl tb)), (AM 2, .inl (cY 0, 22, .inl sA)), (AM 3, .inl (cY 0, 22, .inl rd)), (AM 4, .inl (cY 0, 110, .inl kp)), (AM 5, .inl (cY 0, 8414, .inl td)), (AM 6, .inl (cY 0, 2, .inl wn)), (AM 13, .inl (cY 0, 4, .inl rw)), (AM 14, .inl (cY 0, 4, .inl br))] := hD1
      have hS := hS1
      clear hP1 hD1 hS1
      refine lv_aload_n hx hb dX8_noteRow_32 rfl (lv_at hl 1 rfl) ?_
      refine lv_iload_n hx hb dX8_noteRow_33 rfl (lv_at hl 2 rfl) ?_
      refine va_put (D := (dC, dI)) (ci := 8) (v := .int many) (ty := .int) (C := RX8) (T := TX8) (N := 17) hx hb hts inw_X8_noteRow_X8 tyX8 tyX8_ok nmX8 hown hK hP hD hS 0 rfl rfl 15 (by decide) (hts (.fieldLink RX8 125 "DuelFramesModel" "bestLong" "I") (List.mem_of_getElem? (i := 2) rfl)) (fun _ h9 => h9) rfl (by decide +kernel) rfl rfl (Nat.le_of_ble_eq_true rfl) dX8_noteRow_34 (fun H locs hP1 hD1 hS1 => ?_)
      clear hP hD hS
      have hP : va_P (dC, dI) vwCl [(m0, .inr (8, mdL AM (upd (upd g 16 (1000 - (sA 12))) 15 many))), (AM 0, .inl (cY 0, 72, .inl tb)), (AM 2, .inl (cY 0, 22, .inl sA)), (AM 3, .inl (cY 0, 22, .inl rd)), (AM 4, .inl (cY 0, 110, .inl kp)), (AM 5, .inl (cY 0, 8414, .inl td)), (AM 6, .inl (cY 0, 2, .inl wn)), (AM 13, .inl (cY 0, 4, .inl rw)), (AM 14, .inl (cY 0, 4, .inl br))] H := hP1
      have hD : va_D A [(m0, .inr (8, mdL AM (upd (upd g 16 (1000 - (sA 12))) 15 many))), (AM 0, .inl (cY 0, 72, .inl tb)), (AM 2, .inl (cY 0, 22, .inl sA)), (AM 3, .inl (cY 0, 22, .inl rd)), (AM 4, .inl (cY 0, 110, .inl kp)), (AM 5, .inl (cY 0, 8414, .inl td)), (AM 6, .inl (cY 0, 2, .inl wn)), (AM 13, .inl (cY 0, 4, .inl rw)), (AM 14, .inl (cY 0, 4, .inl br))] := hD1
      have hS := hS1
      clear hP1 hD1 hS1
      refine lv_iconst (v := 0) hx hb dX8_noteRow_37 (by decide) ?_
      refine lv_istore_n (lv' := [(3, .int 0), (2, .int (1000 - (sA 12))), (0, .ref m0), (1, .int many)]) hx hb dX8_noteRow_38 rfl hl (by decide) rfl (fun ls hl => ?_)
      refine lv_iload_n hx hb dX8_noteRow_39 rfl (lv_at hl 0 rfl) ?_
      refine lv_iload_n hx hb dX8_noteRow_40 rfl (lv_at hl 3 rfl) ?_
      refine lv_icmp_ge (tgt := 62) hx hb dX8_noteRow_41 (by decide) (fun c_25 => ?_) (fun c_25 => ?_)
      · have eo_26 : (X8_noteRow_w0 g sA many) = (upd (upd g 16 (1000 - (sA 12))) 15 many) := by rw [X8_noteRow_w0]; simp only [eq_false c_2, eq_false c_22, ↓reduceIte]
        have eo_27 : (X8_noteRow_w8 g sA rw br many) = br := by rw [X8_noteRow_w8]; simp only [eq_false c_2, eq_false c_22, eq_true c_25, ↓reduceIte]
        have hP9 : va_P (dC, dI) vwCl [(m0, .inr (8, mdL AM (X8_noteRow_w0 g sA many))), (AM 0, .inl (cY 0, 72, .inl tb)), (AM 2, .inl (cY 0, 22, .inl sA)), (AM 3, .inl (cY 0, 22, .inl rd)), (AM 4, .inl (cY 0, 110, .inl kp)), (AM 5, .inl (cY 0, 8414, .inl td)), (AM 6, .inl (cY 0, 2, .inl wn)), (AM 13, .inl (cY 0, 4, .inl rw)), (AM 14, .inl (cY 0, 4, .inl (X8_noteRow_w8 g sA rw br many)))] H := by simp only [eo_26, eo_27]; exact hP
        have hD9 : va_D A [(m0, .inr (8, mdL AM (X8_noteRow_w0 g sA many))), (AM 0, .inl (cY 0, 72, .inl tb)), (AM 2, .inl (cY 0, 22, .inl sA)), (AM 3, .inl (cY 0, 22, .inl rd)), (AM 4, .inl (cY 0, 110, .inl kp)), (AM 5, .inl (cY 0, 8414, .inl td)), (AM 6, .inl (cY 0, 2, .inl wn)), (AM 13, .inl (cY 0, 4, .inl rw)), (AM 14, .inl (cY 0, 4, .inl (X8_noteRow_w8 g sA rw br many)))] := by simp only [eo_26, eo_27]; exact hD
        exact W.vret hx hb hr (fun t ht hW => ⟨⟨(), rfl, trivial, wPost_of hP9 hD9 ht⟩, hS.F ht⟩) hS.2.2 dX8_noteRow_62
      · refine lv_aload_n hx hb dX8_noteRow_44 rfl (lv_at hl 2 rfl) ?_
        refine va_get (D := (dC, dI)) (ci := 8) (v := .ref (AM 14)) (C := RX8) (T := TX8) (N := 17) hx hb hts inw_X8_noteRow_X8 hown hK hP 0 rfl rfl 14 (by decide) (hts (.fieldLink RX8 38 "DuelFramesModel" "bestRow" "[I") (List.mem_of_getElem? (i := 4) rfl)) (fun _ h9 => h9) rfl dX8_noteRow_45 ?_
        refine lv_iload_n hx hb dX8_noteRow_48 rfl (lv_at hl 0 rfl) ?_
        refine lv_aload_n hx hb dX8_noteRow_49 rfl (lv_at hl 2 rfl) ?_
        refine va_get (D := (dC, dI)) (ci := 8) (v := .ref (AM 13)) (C := RX8) (T := TX8) (N := 17) hx hb hts inw_X8_noteRow_X8 hown hK hP 0 rfl rfl 13 (by decide) (hts (.fieldLink RX8 35 "DuelFramesModel" "row" "[I") (List.mem_of_getElem? (i := 5) rfl)) (fun _ h9 => h9) rfl dX8_noteRow_50 ?_
        refine lv_iload_n hx hb dX8_noteRow_53 rfl (lv_at hl 0 rfl) ?_
        refine va_iald hx hb hK hP 7 0 rfl rfl (vin rfl) dX8_noteRow_54 ?_
        refine lv_topi (fun x_28 ex_28 => ?_)
        obtain rfl : x_28 = (rw 0) := ex_28
        refine va_iast hx hb hK hP hD hS 8 0 rfl rfl (vin rfl) dX8_noteRow_55 (fun H locs hP1 hD1 hS1 => ?_)
        clear hP hD hS
        have hP : va_P (dC, dI) vwCl [(m0, .inr (8, mdL AM (upd (upd g 16 (1000 - (sA 12))) 15 many))), (AM 0, .inl (cY 0, 72, .inl tb)), (AM 2, .inl (cY 0, 22, .inl sA)), (AM 3, .inl (cY 0, 22, .inl rd)), (AM 4, .inl (cY 0, 110, .inl kp)), (AM 5, .inl (cY 0, 8414, .inl td)), (AM 6, .inl (cY 0, 2, .inl wn)), (AM 13, .inl (cY 0, 4, .inl rw)), (AM 14, .inl (cY 0, 4, .inl (upd br 0 (rw 0))))] H := hP1
        have hD : va_D A [(m0, .inr (8, mdL AM (upd (upd g 16 (1000 - (sA 12))) 15 many))), (AM 0, .inl (cY 0, 72, .inl tb)), (AM 2, .inl (cY 0, 22, .inl sA)), (AM 3, .inl (cY 0, 22, .inl rd)), (AM 4, .inl (cY 0, 110, .inl kp)), (AM 5, .inl (cY 0, 8414, .inl td)), (AM 6, .inl (cY 0, 2, .inl wn)), (AM 13, .inl (cY 0, 4, .inl rw)), (AM 14, .inl (cY 0, 4, .inl (upd br 0 (rw 0))))] := hD1
        have hS := hS1
        clear hP1 hD1 hS1
        refine lv_iinc (v := 1) (lv' := [(3, .int 1), (2, .int (1000 - (sA 12))), (0, .ref m0), (1, .int many)]) hx hb dX8_noteRow_56 hl (k := 0) rfl (by first | rfl | decide) (by decide) rfl (fun ls hl => ?_)
        refine lv_goto (tgt := 39) hx hb dX8_noteRow_59 (by decide) ?_
        refine lv_iload_n hx hb dX8_noteRow_39 rfl (lv_at hl 0 rfl) ?_
        refine lv_iload_n hx hb dX8_noteRow_40 rfl (lv_at hl 3 rfl) ?_
        refine lv_icmp_ge (tgt := 62) hx hb dX8_noteRow_41 (by decide) (fun c_29 => ?_) (fun c_29 => ?_)
        · have eo_30 : (X8_noteRow_w0 g sA many) = (upd (upd g 16 (1000 - (sA 12))) 15 many) := by rw [X8_noteRow_w0]; simp only [eq_false c_2, eq_false c_22, ↓reduceIte]
          have eo_31 : (X8_noteRow_w8 g sA rw br many) = (upd br 0 (rw 0)) := by rw [X8_noteRow_w8]; simp only [eq_false c_2, eq_false c_22, eq_false c_25, eq_true c_29, ↓reduceIte]
          have hP9 : va_P (dC, dI) vwCl [(m0, .inr (8, mdL AM (X8_noteRow_w0 g sA many))), (AM 0, .inl (cY 0, 72, .inl tb)), (AM 2, .inl (cY 0, 22, .inl sA)), (AM 3, .inl (cY 0, 22, .inl rd)), (AM 4, .inl (cY 0, 110, .inl kp)), (AM 5, .inl (cY 0, 8414, .inl td)), (AM 6, .inl (cY 0, 2, .inl wn)), (AM 13, .inl (cY 0, 4, .inl rw)), (AM 14, .inl (cY 0, 4, .inl (X8_noteRow_w8 g sA rw br many)))] H := by simp only [eo_30, eo_31]; exact hP
          have hD9 : va_D A [(m0, .inr (8, mdL AM (X8_noteRow_w0 g sA many))), (AM 0, .inl (cY 0, 72, .inl tb)), (AM 2, .inl (cY 0, 22, .inl sA)), (AM 3, .inl (cY 0, 22, .inl rd)), (AM 4, .inl (cY 0, 110, .inl kp)), (AM 5, .inl (cY 0, 8414, .inl td)), (AM 6, .inl (cY 0, 2, .inl wn)), (AM 13, .inl (cY 0, 4, .inl rw)), (AM 14, .inl (cY 0, 4, .inl (X8_noteRow_w8 g sA rw br many)))] := by simp only [eo_30, eo_31]; exact hD
          exact W.vret hx hb hr (fun t ht hW => ⟨⟨(), rfl, trivial, wPost_of hP9 hD9 ht⟩, hS.F ht⟩) hS.2.2 dX8_noteRow_62
        · refine lv_aload_n hx hb dX8_noteRow_44 rfl (lv_at hl 2 rfl) ?_
          refine va_get (D := (dC, dI)) (ci := 8) (v := .ref (AM 14)) (C := RX8) (T := TX8) (N := 17) hx hb hts inw_X8_noteRow_X8 hown hK hP 0 rfl rfl 14 (by decide) (hts (.fieldLink RX8 38 "DuelFramesModel" "bestRow" "[I") (List.mem_of_getElem? (i := 4) rfl)) (fun _ h9 => h9) rfl dX8_noteRow_45 ?_
          refine lv_iload_n hx hb dX8_noteRow_48 rfl (lv_at hl 0 rfl) ?_
          refine lv_aload_n hx hb dX8_noteRow_49 rfl (lv_at hl 2 rfl) ?_
          refine va_get (D := (dC, dI)) (ci := 8) (v := .ref (AM 13)) (C := RX8) (T := TX8) (N := 17) hx hb hts inw_X8_noteRow_X8 hown hK hP 0 rfl rfl 13 (by decide) (hts (.fieldLink RX8 35 "DuelFramesModel" "row" "[I") (List.mem_of_getElem? (i := 5) rfl)) (fun _ h9 => h9) rfl dX8_noteRow_50 ?_
          refine lv_iload_n hx hb dX8_noteRow_53 rfl (lv_at hl 0 rfl) ?_
          refine va_iald hx hb hK hP 7 0 rfl rfl (vin rfl) dX8_noteRow_54 ?_
          refine lv_topi (fun x_32 ex_32 => ?_)
          obtain rfl : x_32 = (rw 1) := ex_32
          refine va_iast hx hb hK hP hD hS 8 0 rfl rfl (vin rfl) dX8_noteRow_55 (fun H locs hP1 hD1 hS1 => ?_)
          clear hP hD hS
          have hP : va_P (dC, dI) vwCl [(m0, .inr (8, mdL AM (upd (upd g 16 (1000 - (sA 12))) 15 many))), (AM 0, .inl (cY 0, 72, .inl tb)), (AM 2, .inl (cY 0, 22, .inl sA)), (AM 3, .inl (cY 0, 22, .inl rd)), (AM 4, .inl (cY 0, 110, .inl kp)), (AM 5, .inl (cY 0, 8414, .inl td)), (AM 6, .inl (cY 0, 2, .inl wn)), (AM 13, .inl (cY 0, 4, .inl rw)), (AM 14, .inl (cY 0, 4, .inl (upd (upd br 0 (rw 0)) 1 (rw 1))))] H := hP1
          have hD : va_D A [(m0, .inr (8, mdL AM (upd (upd g 16 (1000 - (sA 12))) 15 many))), (AM 0, .inl (cY 0, 72, .inl tb)), (AM 2, .inl (cY 0, 22, .inl sA)), (AM 3, .inl (cY 0, 22, .inl rd)), (AM 4, .inl (cY 0, 110, .inl kp)), (AM 5, .inl (cY 0, 8414, .inl td)), (AM 6, .inl (cY 0, 2, .inl wn)), (AM 13, .inl (cY 0, 4, .inl rw)), (AM 14, .inl (cY 0, 4, .inl (upd (upd br 0 (rw 0)) 1 (rw 1))))] := hD1
          have hS := hS1
          clear hP1 hD1 hS1
          refine lv_iinc (v := 2) (lv' := [(3, .int 2), (2, .int (1000 - (sA 12))), (0, .ref m0), (1, .int many)]) hx hb dX8_noteRow_56 hl (k := 0) rfl (by first | rfl | decide) (by decide) rfl (fun ls hl => ?_)
          refine lv_goto (tgt := 39) hx hb dX8_noteRow_59 (by decide) ?_
          refine lv_iload_n hx hb dX8_noteRow_39 rfl (lv_at hl 0 rfl) ?_
          refine lv_iload_n hx hb dX8_noteRow_40 rfl (lv_at hl 3 rfl) ?_
          refine lv_icmp_ge (tgt := 62) hx hb dX8_noteRow_41 (by decide) (fun c_33 => ?_) (fun c_33 => ?_)
          · have eo_34 : (X8_noteRow_w0 g sA many) = (upd (upd g 16 (1000 - (sA 12))) 15 many) := by rw [X8_noteRow_w0]; simp only [eq_false c_2, eq_false c_22, ↓reduceIte]
            have eo_35 : (X8_noteRow_w8 g sA rw br many) = (upd (upd br 0 (rw 0)) 1 (rw 1)) := by rw [X8_noteRow_w8]; simp only [eq_false c_2, eq_false c_22, eq_false c_25, eq_false c_29, eq_true c_33, ↓reduceIte]
            have hP9 : va_P (dC, dI) vwCl [(m0, .inr (8, mdL AM (X8_noteRow_w0 g sA many))), (AM 0, .inl (cY 0, 72, .inl tb)), (AM 2, .inl (cY 0, 22, .inl sA)), (AM 3, .inl (cY 0, 22, .inl rd)), (AM 4, .inl (cY 0, 110, .inl kp)), (AM 5, .inl (cY 0, 8414, .inl td)), (AM 6, .inl (cY 0, 2, .inl wn)), (AM 13, .inl (cY 0, 4, .inl rw)), (AM 14, .inl (cY 0, 4, .inl (X8_noteRow_w8 g sA rw br many)))] H := by simp only [eo_34, eo_35]; exact hP
            have hD9 : va_D A [(m0, .inr (8, mdL AM (X8_noteRow_w0 g sA many))), (AM 0, .inl (cY 0, 72, .inl tb)), (AM 2, .inl (cY 0, 22, .inl sA)), (AM 3, .inl (cY 0, 22, .inl rd)), (AM 4, .inl (cY 0, 110, .inl kp)), (AM 5, .inl (cY 0, 8414, .inl td)), (AM 6, .inl (cY 0, 2, .inl wn)), (AM 13, .inl (cY 0, 4, .inl rw)), (AM 14, .inl (cY 0, 4, .inl (X8_noteRow_w8 g sA rw br many)))] := by simp only [eo_34, eo_35]; exact hD
            exact W.vret hx hb hr (fun t ht hW => ⟨⟨(), rfl, trivial, wPost_of hP9 hD9 ht⟩, hS.F ht⟩) hS.2.2 dX8_noteRow_62
          · refine lv_aload_n hx hb dX8_noteRow_44 rfl (lv_at hl 2 rfl) ?_
            refine va_get (D := (dC, dI)) (ci := 8) (v := .ref (AM 14)) (C := RX8) (T := TX8) (N := 17) hx hb hts inw_X8_noteRow_X8 hown hK hP 0 rfl rfl 14 (by decide) (hts (.fieldLink RX8 38 "DuelFramesModel" "bestRow" "[I") (List.mem_of_getElem? (i := 4) rfl)) (fun _ h9 => h9) rfl dX8_noteRow_45 ?_
            refine lv_iload_n hx hb dX8_noteRow_48 rfl (lv_at hl 0 rfl) ?_
            refine lv_aload_n hx hb dX8_noteRow_49 rfl (lv_at hl 2 rfl) ?_
            refine va_get (D := (dC, dI)) (ci := 8) (v := .ref (AM 13)) (C := RX8) (T := TX8) (N := 17) hx hb hts inw_X8_noteRow_X8 hown hK hP 0 rfl rfl 13 (by decide) (hts (.fieldLink RX8 35 "DuelFramesModel" "row" "[I") (List.mem_of_getElem? (i := 5) rfl)) (fun _ h9 => h9) rfl dX8_noteRow_50 ?_
            refine lv_iload_n hx hb dX8_noteRow_53 rfl (lv_at hl 0 rfl) ?_
            refine va_iald hx hb hK hP 7 0 rfl rfl (vin rfl) dX8_noteRow_54 ?_
            refine lv_topi (fun x_36 ex_36 => ?_)
            obtain rfl : x_36 = (rw 2) := ex_36
            refine va_iast hx hb hK hP hD hS 8 0 rfl rfl (vin rfl) dX8_noteRow_55 (fun H locs hP1 hD1 hS1 => ?_)
            clear hP hD hS
            have hP : va_P (dC, dI) vwCl [(m0, .inr (8, mdL AM (upd (upd g 16 (1000 - (sA 12))) 15 many))), (AM 0, .inl (cY 0, 72, .inl tb)), (AM 2, .inl (cY 0, 22, .inl sA)), (AM 3, .inl (cY 0, 22, .inl rd)), (AM 4, .inl (cY 0, 110, .inl kp)), (AM 5, .inl (cY 0, 8414, .inl td)), (AM 6, .inl (cY 0, 2, .inl wn)), (AM 13, .inl (cY 0, 4, .inl rw)), (AM 14, .inl (cY 0, 4, .inl (upd (upd (upd br 0 (rw 0)) 1 (rw 1)) 2 (rw 2))))] H := hP1
            have hD : va_D A [(m0, .inr (8, mdL AM (upd (upd g 16 (1000 - (sA 12))) 15 many))), (AM 0, .inl (cY 0, 72, .inl tb)), (AM 2, .inl (cY 0, 22, .inl sA)), (AM 3, .inl (cY 0, 22, .inl rd)), (AM 4, .inl (cY 0, 110, .inl kp)), (AM 5, .inl (cY 0, 8414, .inl td)), (AM 6, .inl (cY 0, 2, .inl wn)), (AM 13, .inl (cY 0, 4, .inl rw)), (AM 14, .inl (cY 0, 4, .inl (upd (upd (upd br 0 (rw 0)) 1 (rw 1)) 2 (rw 2))))] := hD1
            have hS := hS1
            clear hP1 hD1 hS1
            refine lv_iinc (v := 3) (lv' := [(3, .int 3), (2, .int (1000 - (sA 12))), (0, .ref m0), (1, .int many)]) hx hb dX8_noteRow_56 hl (k := 0) rfl (by first | rfl | decide) (by decide) rfl (fun ls hl => ?_)
            refine lv_goto (tgt := 39) hx hb dX8_noteRow_59 (by decide) ?_
            refine lv_iload_n hx hb dX8_noteRow_39 rfl (lv_at hl 0 rfl) ?_
            refine lv_iload_n hx hb dX8_noteRow_40 rfl (lv_at hl 3 rfl) ?_
            refine lv_icmp_ge (tgt := 62) hx hb dX8_noteRow_41 (by decide) (fun c_37 => ?_) (fun c_37 => ?_)
            · have eo_38 : (X8_noteRow_w0 g sA many) = (upd (upd g 16 (1000 - (sA 12))) 15 many) := by rw [X8_noteRow_w0]; simp only [eq_false c_2, eq_false c_22, ↓reduceIte]
              have eo_39 : (X8_noteRow_w8 g sA rw br many) = (upd (upd (upd br 0 (rw 0)) 1 (rw 1)) 2 (rw 2)) := by rw [X8_noteRow_w8]; simp only [eq_false c_2, eq_false c_22, eq_false c_25, eq_false c_29, eq_false c_33, eq_true c_37, ↓reduceIte]
              have hP9 : va_P (dC, dI) vwCl [(m0, .inr (8, mdL AM (X8_noteRow_w0 g sA many))), (AM 0, .inl (cY 0, 72, .inl tb)), (AM 2, .inl (cY 0, 22, .inl sA)), (AM 3, .inl (cY 0, 22, .inl rd)), (AM 4, .inl (cY 0, 110, .inl kp)), (AM 5, .inl (cY 0, 8414, .inl td)), (AM 6, .inl (cY 0, 2, .inl wn)), (AM 13, .inl (cY 0, 4, .inl rw)), (AM 14, .inl (cY 0, 4, .inl (X8_noteRow_w8 g sA rw br many)))] H := by simp only [eo_38, eo_39]; exact hP
              have hD9 : va_D A [(m0, .inr (8, mdL AM (X8_noteRow_w0 g sA many))), (AM 0, .inl (cY 0, 72, .inl tb)), (AM 2, .inl (cY 0, 22, .inl sA)), (AM 3, .inl (cY 0, 22, .inl rd)), (AM 4, .inl (cY 0, 110, .inl kp)), (AM 5, .inl (cY 0, 8414, .inl td)), (AM 6, .inl (cY 0, 2, .inl wn)), (AM 13, .inl (cY 0, 4, .inl rw)), (AM 14, .inl (cY 0, 4, .inl (X8_noteRow_w8 g sA rw br many)))] := by simp only [eo_38, eo_39]; exact hD
              exact W.vret hx hb hr (fun t ht hW => ⟨⟨(), rfl, trivial, wPost_of hP9 hD9 ht⟩, hS.F ht⟩) hS.2.2 dX8_noteRow_62
            · refine lv_aload_n hx hb dX8_noteRow_44 rfl (lv_at hl 2 rfl) ?_
              refine va_get (D := (dC, dI)) (ci := 8) (v := .ref (AM 14)) (C := RX8) (T := TX8) (N := 17) hx hb hts inw_X8_noteRow_X8 hown hK hP 0 rfl rfl 14 (by decide) (hts (.fieldLink RX8 38 "DuelFramesModel" "bestRow" "[I") (List.mem_of_getElem? (i := 4) rfl)) (fun _ h9 => h9) rfl dX8_noteRow_45 ?_
              refine lv_iload_n hx hb dX8_noteRow_48 rfl (lv_at hl 0 rfl) ?_
              refine lv_aload_n hx hb dX8_noteRow_49 rfl (lv_at hl 2 rfl) ?_
              refine va_get (D := (dC, dI)) (ci := 8) (v := .ref (AM 13)) (C := RX8) (T := TX8) (N := 17) hx hb hts inw_X8_noteRow_X8 hown hK hP 0 rfl rfl 13 (by decide) (hts (.fieldLink RX8 35 "DuelFramesModel" "row" "[I") (List.mem_of_getElem? (i := 5) rfl)) (fun _ h9 => h9) rfl dX8_noteRow_50 ?_
              refine lv_iload_n hx hb dX8_noteRow_53 rfl (lv_at hl 0 rfl) ?_
              refine va_iald hx hb hK hP 7 0 rfl rfl (vin rfl) dX8_noteRow_54 ?_
              refine lv_topi (fun x_40 ex_40 => ?_)
              obtain rfl : x_40 = (rw 3) := ex_40
              refine va_iast hx hb hK hP hD hS 8 0 rfl rfl (vin rfl) dX8_noteRow_55 (fun H locs hP1 hD1 hS1 => ?_)
              clear hP hD hS
              have hP : va_P (dC, dI) vwCl [(m0, .inr (8, mdL AM (upd (upd g 16 (1000 - (sA 12))) 15 many))), (AM 0, .inl (cY 0, 72, .inl tb)), (AM 2, .inl (cY 0, 22, .inl sA)), (AM 3, .inl (cY 0, 22, .inl rd)), (AM 4, .inl (cY 0, 110, .inl kp)), (AM 5, .inl (cY 0, 8414, .inl td)), (AM 6, .inl (cY 0, 2, .inl wn)), (AM 13, .inl (cY 0, 4, .inl rw)), (AM 14, .inl (cY 0, 4, .inl (upd (upd (upd (upd br 0 (rw 0)) 1 (rw 1)) 2 (rw 2)) 3 (rw 3))))] H := hP1
              have hD : va_D A [(m0, .inr (8, mdL AM (upd (upd g 16 (1000 - (sA 12))) 15 many))), (AM 0, .inl (cY 0, 72, .inl tb)), (AM 2, .inl (cY 0, 22, .inl sA)), (AM 3, .inl (cY 0, 22, .inl rd)), (AM 4, .inl (cY 0, 110, .inl kp)), (AM 5, .inl (cY 0, 8414, .inl td)), (AM 6, .inl (cY 0, 2, .inl wn)), (AM 13, .inl (cY 0, 4, .inl rw)), (AM 14, .inl (cY 0, 4, .inl (upd (upd (upd (upd br 0 (rw 0)) 1 (rw 1)) 2 (rw 2)) 3 (rw 3))))] := hD1
              have hS := hS1
              clear hP1 hD1 hS1
              refine lv_iinc (v := 4) (lv' := [(3, .int 4), (2, .int (1000 - (sA 12))), (0, .ref m0), (1, .int many)]) hx hb dX8_noteRow_56 hl (k := 0) rfl (by first | rfl | decide) (by decide) rfl (fun ls hl => ?_)
              refine lv_goto (tgt := 39) hx hb dX8_noteRow_59 (by decide) ?_
              refine lv_iload_n hx hb dX8_noteRow_39 rfl (lv_at hl 0 rfl) ?_
              refine lv_iload_n hx hb dX8_noteRow_40 rfl (lv_at hl 3 rfl) ?_
              refine lv_icmp_ge (tgt := 62) hx hb dX8_noteRow_41 (by decide) (fun c_41 => ?_) (fun c_41 => ?_)
              rotate_left
              · exact absurd (vp_le4 hm4) c_41
              have eo_42 : (X8_noteRow_w0 g sA many) = (upd (upd g 16 (1000 - (sA 12))) 15 many) := by rw [X8_noteRow_w0]; simp only [eq_false c_2, eq_false c_22, ↓reduceIte]
              have eo_43 : (X8_noteRow_w8 g sA rw br many) = (upd (upd (upd (upd br 0 (rw 0)) 1 (rw 1)) 2 (rw 2)) 3 (rw 3)) := by rw [X8_noteRow_w8]; simp only [eq_false c_2, eq_false c_22, eq_false c_25, eq_false c_29, eq_false c_33, eq_false c_37, ↓reduceIte]
              have hP9 : va_P (dC, dI) vwCl [(m0, .inr (8, mdL AM (X8_noteRow_w0 g sA many))), (AM 0, .inl (cY 0, 72, .inl tb)), (AM 2, .inl (cY 0, 22, .inl sA)), (AM 3, .inl (cY 0, 22, .inl rd)), (AM 4, .inl (cY 0, 110, .inl kp)), (AM 5, .inl (cY 0, 8414, .inl td)), (AM 6, .inl (cY 0, 2, .inl wn)), (AM 13, .inl (cY 0, 4, .inl rw)), (AM 14, .inl (cY 0, 4, .inl (X8_noteRow_w8 g sA rw br many)))] H := by simp only [eo_42, eo_43]; exact hP
              have hD9 : va_D A [(m0, .inr (8, mdL AM (X8_noteRow_w0 g sA many))), (AM 0, .inl (cY 0, 72, .inl tb)), (AM 2, .inl (cY 0, 22, .inl sA)), (AM 3, .inl (cY 0, 22, .inl rd)), (AM 4, .inl (cY 0, 110, .inl kp)), (AM 5, .inl (cY 0, 8414, .inl td)), (AM 6, .inl (cY 0, 2, .inl wn)), (AM 13, .inl (cY 0, 4, .inl rw)), (AM 14, .inl (cY 0, 4, .inl (X8_noteRow_w8 g sA rw br many)))] := by simp only [eo_42, eo_43]; exact hD
              exact W.vret hx hb hr (fun t ht hW => ⟨⟨(), rfl, trivial, wPost_of hP9 hD9 ht⟩, hS.F ht⟩) hS.2.2 dX8_noteRow_62
