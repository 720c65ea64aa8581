abbrev w_X8_blow_1 (h0 h1 h2 h3 h4 : Nat) (k0 : ClassId) (a0 a1 a2 a3 : Int32) (_ : Unit) : va_W := [(h0, .inr (8, [.ref h1, .ref h2, .ref h3, .ref h4, .int 0, .int 0]))]
abbrev t_X8_blow_1 (_ : Unit) : List (ClassId × FieldType) := []
abbrev Q_X8_blow_1 (D : va_G) (h0 h1 h2 h3 h4 : Nat) (k0 : ClassId) (a0 a1 a2 a3 : Int32) (A : Nat → Prop) : Array Value → State → Outcome → State → Prop := QW (.returned none) D (w_X8_blow_1 h0 h1 h2 h3 h4 k0 a0 a1 a2 a3) t_X8_blow_1 A
set_option maxHeartbeats 4000000 in
set_option maxRecDepth 100000 in
theorem c_X8_blow_1 (l : Launch) (D : va_G) (h0 h1 h2 h3 h4 : Nat) (k0 : ClassId) (a0 a1 a2 a3 : Int32) (sz : Nat) (v0 : pHours a1 a2) : Met l yX8_blow (.code yX8_blow cX8_blow 6 none :: wT) ({ frames := 1, cells := 0, slots := 0, locals := 22 } : Room) (SP D [.ref h0, .int a0, .int a1, .int a2, .int a3] [(h0, .inr (8, [.ref h1, .ref h2, .ref h3, .ref h4, .int 0, .int 0])), (h1, .inl (k0, 24000, .inl (fun _ => 0)))] [(k0, .int)] sz) (Q_X8_blow_1 D h0 h1 h2 h3 h4 k0 a0 a1 a2 a3 (va_A [(h0, .inr (8, [.ref h1, .ref h2, .ref h3, .ref h4, .int 0, .int 0])), (h1, .inl (k0, 24000, .inl (fun _ => 0)))] sz)) 0 0 (va_A [(h0, .inr (8, [.ref h1, .ref h2, .ref h3, .ref h4, .int 0, .int 0])), (h1, .inl (k0, 24000, .inl (fun _ => 0)))] sz) := by
  refine SP.start (Qf := Q_X8_blow_1 D h0 h1 h2 h3 h4 k0 a0 a1 a2 a3) (by decide) (Nat.le_of_ble_eq_true rfl) ?_
  intro p e s m below meth c ls A hx hb hr hml hown hts hlocks hname hA hP hK hD hE hl hS
  have hown : s.vm.findClass RX8 = some m.cls := hown
  have hl : lv_has ls 6 [(0, .ref h0), (1, .int a0), (2, .int a1), (3, .int a2), (4, .int a3)] := hl
  refine lv_iload_n hx hb dX8_blow_0 rfl (lv_at hl 2 rfl) ?_
  refine lv_istore (lv' := [(5, .int a1), (0, .ref h0), (1, .int a0), (2, .int a1), (3, .int a2), (4, .int a3)]) hx hb dX8_blow_1 hl (by decide) rfl (fun ls hl => ?_)
  refine lw_loop (σ := Int32 × (Nat → Int32)) (I := fun n z H ls locs => vL n a1 z.1 (a1 + a2) ∧ lv_has ls 6 [(5, .int z.1), (0, .ref h0), (1, .int a0), (2, .int a1), (3, .int a2), (4, .int a3)] ∧ va_P D vwCl [(h0, .inr (8, [.ref h1, .ref h2, .ref h3, .ref h4, .int 0, .int 0])), (h1, .inl (k0, 24000, .inl z.2))] H ∧ va_D A [(h0, .inr (8, [.ref h1, .ref h2, .ref h3, .ref h4, .int 0, .int 0])), (h1, .inl (k0, 24000, .inl z.2))] ∧ va_S A s.heap H locs) ?_ _ (a1, (fun _ => 0)) _ _ _ ⟨vL.of (hours_le v0), lv_sub hl [0, 1, 2, 3, 4, 5] rfl, hP, hD, hS⟩
  clear hP hD hS hl
  intro n z H ls locs hI ih
  obtain ⟨hv, hl, hP, hD, hS⟩ := hI
  obtain ⟨i1, G2⟩ := z
  have hv : vL n a1 i1 (a1 + a2) := hv
  have hl : lv_has ls 6 [(5, .int i1), (0, .ref h0), (1, .int a0), (2, .int a1), (3, .int a2), (4, .int a3)] := hl
  have hP : va_P D vwCl [(h0, .inr (8, [.ref h1, .ref h2, .ref h3, .ref h4, .int 0, .int 0])), (h1, .inl (k0, 24000, .inl G2))] H := hP
  have hD : va_D A [(h0, .inr (8, [.ref h1, .ref h2, .ref h3, .ref h4, .int 0, .int 0])), (h1, .inl (k0, 24000, .inl G2))] := hD
  refine lv_iload hx hb dX8_blow_3 (lv_at hl 0 rfl) ?_
  refine lv_iload_n hx hb dX8_blow_5 rfl (lv_at hl 3 rfl) ?_
  refine lv_iload_n hx hb dX8_blow_6 rfl (lv_at hl 4 rfl) ?_
  refine lv_iadd hx hb dX8_blow_7 ?_
  refine lv_icmp_ge (tgt := 52) hx hb dX8_blow_8 (by decide) (fun c3 => ?_) (fun c3 => ?_)
  · exact q_vret () hx hb hr hlocks hP hK hD hS [0] [] rfl rfl rfl dX8_blow_52 (Nat.le_of_ble_eq_true rfl) (Nat.le_of_ble_eq_true rfl)
  · refine lv_iload hx hb dX8_blow_11 (lv_at hl 0 rfl) ?_
    refine q_runP (va_runSN (As := [.int i1]) (rest := []) ⟨hx, hb, hml, hown, hts⟩ (c_isHour l i1) ⟨va_cnB 1 hts (gT kw0) rfl rfl rfl (hE.1 _ nw251 rfl) (hts _ kw3) hd17 ⟨(Nat.le_of_ble_eq_true rfl), (Nat.le_of_ble_eq_true rfl)⟩, hts _ kw2, trivial⟩ preEq rfl rfl hl.1 rfl (lv_room (Nat.le_of_ble_eq_true rfl)) dX8_blow_13 ⟨(Nat.le_of_ble_eq_true rfl), (Nat.le_of_ble_eq_true rfl)⟩) ?_
    refine lv_if_eq (tgt := 46) hx hb dX8_blow_16 (by decide) (fun c4 => ?_) (fun c4 => ?_)
    · have c4 := bz_n c4
      refine lv_iinc (v := i1 + 1) (lv' := [(5, .int (i1 + 1)), (0, .ref h0), (1, .int a0), (2, .int a1), (3, .int a2), (4, .int a3)]) hx hb dX8_blow_46 hl (k := 0) rfl rfl (by decide) rfl (fun ls hl => ?_)
      refine lv_goto (tgt := 3) hx hb dX8_blow_49 (by decide) ?_
      exact ih _ (i1 + 1, G2) _ _ _ (hv.step c3).1 ⟨(hv.step c3).2, lv_sub hl [0, 1, 2, 3, 4, 5] rfl, hP, hD, hS⟩
    · have c4 := bz_p c4
      refine lv_iload_n hx hb dX8_blow_19 rfl (lv_at hl 2 rfl) ?_
      refine lv_iconst (v := 0) hx hb dX8_blow_20 (by decide) ?_
      refine lv_bipush (v := 23) hx hb dX8_blow_21 (by decide) ?_
      refine q_runP (va_runSN (As := [.int a0, .int 0, .int 23]) (rest := []) ⟨hx, hb, hml, hown, hts⟩ (c_isWithin l a0 0 23) ⟨va_cnB 3 hts (gT kw4) rfl rfl rfl (hE.1 _ nw252 rfl) (hts _ kw3) hd18 ⟨(Nat.le_of_ble_eq_true rfl), (Nat.le_of_ble_eq_true rfl)⟩, hts _ kw6, trivial⟩ preEq rfl rfl hl.1 rfl (lv_room (Nat.le_of_ble_eq_true rfl)) dX8_blow_23 ⟨(Nat.le_of_ble_eq_true rfl), (Nat.le_of_ble_eq_true rfl)⟩) ?_
      refine lv_if_eq (tgt := 46) hx hb dX8_blow_26 (by decide) (fun c5 => ?_) (fun c5 => ?_)
      · have c5 := bz_n c5
        refine lv_iinc (v := i1 + 1) (lv' := [(5, .int (i1 + 1)), (0, .ref h0), (1, .int a0), (2, .int a1), (3, .int a2), (4, .int a3)]) hx hb dX8_blow_46 hl (k := 0) rfl rfl (by decide) rfl (fun ls hl => ?_)
        refine lv_goto (tgt := 3) hx hb dX8_blow_49 (by decide) ?_
        exact ih _ (i1 + 1, G2) _ _ _ (hv.step c3).1 ⟨(hv.step c3).2, lv_sub hl [0, 1, 2, 3, 4, 5] rfl, hP, hD, hS⟩
      · have c5 := bz_p c5
        refine lv_aload_n hx hb dX8_blow_29 rfl (lv_at hl 1 rfl) ?_
        refine va_get (D := D) (ci := 8) (v := .ref h1) (C := RX8) (T := TX8) (N := 6) hx hb hts iX8 hown hK hP 0 rfl rfl 0 (by decide) (hts _ kw23) (fun _ h9 => h9) rfl dX8_blow_30 ?_
        refine lv_iload hx hb dX8_blow_33 (lv_at hl 0 rfl) ?_
        refine lv_bipush (v := 24) hx hb dX8_blow_35 (by decide) ?_
        refine lv_imul hx hb dX8_blow_37 ?_
        refine lv_iload_n hx hb dX8_blow_38 rfl (lv_at hl 2 rfl) ?_
        refine lv_iadd hx hb dX8_blow_39 ?_
        refine lv_iload hx hb dX8_blow_40 (lv_at hl 5 rfl) ?_
        refine lv_bipush (v := 33) hx hb dX8_blow_42 (by decide) ?_
        refine lv_isub hx hb dX8_blow_44 ?_
        refine va_iast hx hb hK hP hD hS 1 0 rfl rfl (slot_vin c4 c5) dX8_blow_45 (fun H locs hP hD hS => ?_)
        have hP : va_P D vwCl [(h0, .inr (8, [.ref h1, .ref h2, .ref h3, .ref h4, .int 0, .int 0])), (h1, .inl (k0, 24000, .inl (upd G2 ((i1 * 24) + a0 : Int32).toNatClampNeg (a3 - 33))))] H := hP
        have hD : va_D A [(h0, .inr (8, [.ref h1, .ref h2, .ref h3, .ref h4, .int 0, .int 0])), (h1, .inl (k0, 24000, .inl (upd G2 ((i1 * 24) + a0 : Int32).toNatClampNeg (a3 - 33))))] := hD
        refine lv_iinc (v := i1 + 1) (lv' := [(5, .int (i1 + 1)), (0, .ref h0), (1, .int a0), (2, .int a1), (3, .int a2), (4, .int a3)]) hx hb dX8_blow_46 hl (k := 0) rfl rfl (by decide) rfl (fun ls hl => ?_)
        refine lv_goto (tgt := 3) hx hb dX8_blow_49 (by decide) ?_
        exact ih _ (i1 + 1, (upd G2 ((i1 * 24) + a0 : Int32).toNatClampNeg (a3 - 33))) _ _ _ (hv.step c3).1 ⟨(hv.step c3).2, lv_sub hl [0, 1, 2, 3, 4, 5] rfl, hP, hD, hS⟩
abbrev w_X7_forgetWays_1 (h0 h1 h2 h3 h4 h5 h6 h7 h8 h9 : Nat) (_ : Unit) : va_W := [(h0, .inr (7, [.ref h1, .ref h2, .ref h3, .ref h4, .ref h5, .ref h6, .ref h7, .ref h8, .ref h9, .int 0, .int 0, .int 0, .int 0]))]
abbrev t_X7_forgetWays_1 (_ : Unit) : List (ClassId × FieldType) := []
abbrev Q_X7_forgetWays_1 (D : va_G) (h0 h1 h2 h3 h4 h5 h6 h7 h8 h9 : Nat) (A : Nat → Prop) : Array Value → State → Outcome → State → Prop := QW (.returned none) D (w_X7_forgetWays_1 h0 h1 h2 h3 h4 h5 h6 h7 h8 h9) t_X7_forgetWays_1 A
set_option maxHeartbeats 4000000 in
set_option maxRecDepth 100000 in
theorem c_X7_forgetWays_1 (l : Launch) (D : va_G) (h0 h1 h2 h3 h4 h5 h6 h7 h8 h9 : Nat) (sz : Nat) : Met l yX7_forgetWays (.code yX7_forgetWays cX7_forgetWays 1 none :: wT) ({ frames := 0, cells := 0, slots := 0, locals := 0 } : Room) (SP D [.ref h0] [(h0, .inr (7, [.ref h1, .ref h2, .ref h3, .ref h4, .ref h5, .ref h6, .ref h7, .ref h8, .ref h9, .int 0, .int 0, .int 0, .int 0]))] [] sz) (Q_X7_forgetWays_1 D h0 h1 h2 h3 h4 h5 h6 h7 h8 h9 (va_A [(h0, .inr (7, [.ref h1, .ref h2, .ref h3, .ref h4, .ref h5, .ref h6, .ref h7, .ref h8, .ref h9, .int 0, .int 0, .int 0, .int 0]))] sz)) 0 0 (va_A [(h0, .inr (7, [.ref h1, .ref h2, .ref h3, .ref h4, .ref h5, .ref h6, .ref h7, .ref h8, .ref h9, .int 0, .int 0, .int 0, .int 0]))] sz) := by
  refine SP.start (Qf := Q_X7_forgetWays_1 D h0 h1 h2 h3 h4 h5 h6 h7 h8 h9) (by decide) (Nat.le_of_ble_eq_true rfl) ?_
  intro p e s m below meth c ls A hx hb hr hml hown hts hlocks hname hA hP hK hD hE hl hS
  have hown : s.vm.findClass RX7 = some m.cls := hown
  have hl : lv_has ls 1 [(0, .ref h0)] := hl
  refine lv_aload_n hx hb dX7_forgetWays_0 rfl (lv_at hl 0 rfl) ?_
  refine lv_iconst (v := 0) hx hb dX7_forgetWays_1 (by decide) ?_
  refine va_put (D := D) (ci := 7) (v := .int 0) (ty := .boolean) (C := RX7) (T := TX7) (N := 13) hx hb hts iX7 tyX7 tyX7_ok nmX7 hown hK hP hD hS 0 rfl rfl 10 (by decide) (hts _ kw75) (fun _ h9 => h9) rfl (tyX7_ok 10 (by decide)) rfl rfl (Nat.le_of_ble_eq_true rfl) dX7_forgetWays_2 (fun H locs hP hD hS => ?_)
  have hP : va_P D vwCl [(h0, .inr (7, [.ref h1, .ref h2, .ref h3, .ref h4, .ref h5, .ref h6, .ref h7, .ref h8, .ref h9, .int 0, .int 0, .int 0, .int 0]))] H := hP
  have hD : va_D A [(h0, .inr (7, [.ref h1, .ref h2, .ref h3, .ref h4, .ref h5, .ref h6, .ref h7, .ref h8, .ref h9, .int 0, .int 0, .int 0, .int 0]))] := hD
  exact q_vret () hx hb hr hlocks hP hK hD hS [0] [] rfl rfl rfl dX7_forgetWays_5 (Nat.le_of_ble_eq_true rfl) (Nat.le_of_ble_eq_true rfl)
abbrev w_X11_wind_1 (h0 h1 h2 h3 h4 h5 h6 h7 h8 h9 h10 h11 h12 h13 h14 h15 h16 h17 h18 h19 h20 h21 h22 h23 : Nat) (k0 : ClassId) (a0 a1 a2 a3 a4 a5 : Int32) (_ : Unit) : va_W := [(h0, .inr (11, [.int 0, .ref h1, .ref h4, .ref h5, .int 0, .ref h6, .int 0, .ref h2, .ref h7, .ref h8, .ref h9, .int 0, .ref h10, .int (-1), .ref h11])), (h1, .inr (8, [.ref h3, .ref h12, .ref h13, .ref h14, .int 0, .int 0])), (h2, .inr (7, [.ref h15, .ref h16, .ref h17, .ref h18, .ref h19, .ref h20, .ref h21, .ref h22, .ref h23, .int 0, .int 0, .int 0, .int 0]))]
abbrev t_X11_wind_1 (_ : Unit) : List (ClassId × FieldType) := []
abbrev Q_X11_wind_1 (D : va_G) (h0 h1 h2 h3 h4 h5 h6 h7 h8 h9 h10 h11 h12 h13 h14 h15 h16 h17 h18 h19 h20 h21 h22 h23 : Nat) (k0 : ClassId) (a0 a1 a2 a3 a4 a5 : Int32) (A : Nat → Prop) : Array Value → State → Outcome → State → Prop := QW (.returned (some (.int 1))) D (w_X11_wind_1 h0 h1 h2 h3 h4 h5 h6 h7 h8 h9 h10 h11 h12 h13 h14 h15 h16 h17 h18 h19 h20 h21 h22 h23 k0 a0 a1 a2 a3 a4 a5) t_X11_wind_1 A
set_option maxHeartbeats 4000000 in
set_option maxRecDepth 100000 in
theorem c_X11_wind_1 (l : Launch) (D : va_G) (h0 h1 h2 h3 h4 h5 h6 h7 h8 h9 h10 h11 h12 h13 h14 h15 h16 h17 h18 h19 h20 h21 h22 h23 : Nat) (k0 : ClassId) (a0 a1 a2 a3 a4 a5 : Int32) (sz : Nat) (v0 : pAir a0 a1) (v1 : pHours a2 a3) (v2 : pPull a4 a5) : Met l yX11_wind (.code yX11_wind cX11_wind 7 (some .int) :: wT) ({ frames := 2, cells := 0, slots := 0, locals := 47 } : Room) (SP D [.ref h0, .int a0, .int a1, .int a2, .int a3, .int a4, .int a5] [(h0, .inr (11, [.int 0, .ref h1, .ref h4, .ref h5, .int 0, .ref h6, .int 0, .ref h2, .ref h7, .ref h8, .ref h9, .int 0, .ref h10, .int (-1), .ref h11])), (h1, .inr (8, [.ref h3, .ref h12, .ref h13, .ref h14, .int 0, .int 0])), (h2, .inr (7, [.ref h15, .ref h16, .ref h17, .ref h18, .ref h19, .ref h20, .ref h21, .ref h22, .ref h23, .int 0, .int 0, .int 0, .int 0])), (h3, .inl (k0, 24000, .inl (fun _ => 0)))] [(k0, .int)] sz) (Q_X11_wind_1 D h0 h1 h2 h3 h4 h5 h6 h7 h8 h9 h10 h11 h12 h13 h14 h15 h16 h17 h18 h19 h20 h21 h22 h23 k0 a0 a1 a2 a3 a4 a5 (va_A [(h0, .inr (11, [.int 0, .ref h1, .ref h4, .ref h5, .int 0, .ref h6, .int 0, .ref h2, .ref h7, .ref h8, .ref h9, .int 0, .ref h10, .int (-1), .ref h11])), (h1, .inr (8, [.ref h3, .ref h12, .ref h13, .ref h14, .int 0, .int 0])), (h2, .inr (7, [.ref h15, .ref h16, .ref h17, .ref h18, .ref h19, .ref h20, .ref h21, .ref h22, .ref h23, .int 0, .int 0, .int 0, .int 0])), (h3, .inl (k0, 24000, .inl (fun _ => 0)))] sz)) 0 0 (va_A [(h0, .inr (11, [.int 0, .ref h1, .ref h4, .ref h5, .int 0, .ref h6, .int 0, .ref h2, .ref h7, .ref h8, .ref h9, .int 0, .ref h10, .int (-1), .ref h11])), (h1, .inr (8, [.ref h3, .ref h12, .ref h13, .ref h14, .int 0, .int 0])), (h2, .inr (7, [.ref h15, .ref h16, .ref h17, .ref h18, .ref h19, .ref h20, .ref h21, .ref h22, .ref h23, .int 0, .int 0, .int 0, .int 0])), (h3, .inl (k0, 24000, .inl (fun _ => 0)))] sz) := by
  refine SP.start (Qf := Q_X11_wind_1 D h0 h1 h2 h3 h4 h5 h6 h7 h8 h9 h10 h11 h12 h13 h14 h15 h16 h17 h18 h19 h20 h21 h22 h23 k0 a0 a1 a2 a3 a4 a5) (by decide) (Nat.le_of_ble_eq_true rfl) ?_
  intro p e s m below meth c ls A hx hb hr hml hown hts hlocks hname hA hP hK hD hE hl hS
  have hown : s.vm.findClass RX11 = some m.cls := hown
  have hl : lv_has ls 7 [(0, .ref h0), (1, .int a0), (2, .int a1), (3, .int a2), (4, .int a3), (5, .int a4), (6, .int a5)] := hl
  refine lv_iload_n hx hb dX11_wind_0 rfl (lv_at hl 1 rfl) ?_
  refine lv_iload_n hx hb dX11_wind_1 rfl (lv_at hl 2 rfl) ?_
  refine q_runP (va_runS (As := [.int a0, .int a1]) (rest := []) ⟨hx, hb, hml, hown, hts⟩ (c_isAir l a0 a1) (cwS 2 hts (gTS kw233 kw234 kw235 kw3) rfl rfl rfl hd11 ⟨(Nat.le_of_ble_eq_true rfl), (Nat.le_of_ble_eq_true rfl)⟩) preEq rfl rfl hl.1 rfl (lv_room (Nat.le_of_ble_eq_true rfl)) dX11_wind_2 ⟨(Nat.le_of_ble_eq_true rfl), (Nat.le_of_ble_eq_true rfl)⟩) ?_
  refine lv_if_eq (tgt := 31) hx hb dX11_wind_5 (by decide) (fun c9 => absurd v0 (bz_n c9)) (fun _ => ?_)
  refine lv_iload_n hx hb dX11_wind_8 rfl (lv_at hl 3 rfl) ?_
  refine lv_iload hx hb dX11_wind_9 (lv_at hl 4 rfl) ?_
  refine q_runP (va_runS (As := [.int a2, .int a3]) (rest := []) ⟨hx, hb, hml, hown, hts⟩ (c_areHours l a2 a3) (cwS 2 hts (gTS kw236 kw237 kw238 kw3) rfl rfl rfl hd12 ⟨(Nat.le_of_ble_eq_true rfl), (Nat.le_of_ble_eq_true rfl)⟩) preEq rfl rfl hl.1 rfl (lv_room (Nat.le_of_ble_eq_true rfl)) dX11_wind_11 ⟨(Nat.le_of_ble_eq_true rfl), (Nat.le_of_ble_eq_true rfl)⟩) ?_
  refine lv_if_eq (tgt := 31) hx hb dX11_wind_14 (by decide) (fun c9 => absurd v1 (bz_n c9)) (fun _ => ?_)
  refine lv_iload hx hb dX11_wind_17 (lv_at hl 5 rfl) ?_
  refine lv_iload hx hb dX11_wind_19 (lv_at hl 6 rfl) ?_
  refine q_runP (va_runS (As := [.int a4, .int a5]) (rest := []) ⟨hx, hb, hml, hown, hts⟩ (c_arePulls l a4 a5) (cwS 2 hts (gTS kw239 kw240 kw241 kw3) rfl rfl rfl hd13 ⟨(Nat.le_of_ble_eq_true rfl), (Nat.le_of_ble_eq_true rfl)⟩) preEq rfl rfl hl.1 rfl (lv_room (Nat.le_of_ble_eq_true rfl)) dX11_wind_21 ⟨(Nat.le_of_ble_eq_true rfl), (Nat.le_of_ble_eq_true rfl)⟩) ?_
  refine lv_if_eq (tgt := 31) hx hb dX11_wind_24 (by decide) (fun c9 => absurd v2 (bz_n c9)) (fun _ => ?_)
  refine lv_iconst (v := 1) hx hb dX11_wind_27 (by decide) ?_
  refine lv_goto (tgt := 32) hx hb dX11_wind_28 (by decide) ?_
  refine q_runPv (va_runS (As := [.int 1]) (rest := []) ⟨hx, hb, hml, hown, hts⟩ (c_require_1 l) (cwS 1 hts (gTS kw242 kw243 kw244 kw3) rfl rfl rfl hd14 ⟨(Nat.le_of_ble_eq_true rfl), (Nat.le_of_ble_eq_true rfl)⟩) preEq rfl rfl hl.1 rfl (lv_room (Nat.le_of_ble_eq_true rfl)) dX11_wind_32 ⟨(Nat.le_of_ble_eq_true rfl), (Nat.le_of_ble_eq_true rfl)⟩) ?_
  refine lv_iload_n hx hb dX11_wind_35 rfl (lv_at hl 3 rfl) ?_
  refine lv_aload_n hx hb dX11_wind_36 rfl (lv_at hl 0 rfl) ?_
  refine va_get (D := D) (ci := 11) (v := .int 0) (C := RX11) (T := TX11) (N := 15) hx hb hts iX11 hown hK hP 0 rfl rfl 0 (by decide) (hts _ kw17) (fun _ h9 => h9) rfl dX11_wind_37 ?_
  refine lv_icmp_ge (tgt := 45) hx hb dX11_wind_40 (by decide) (fun _ => ?_) (fun c9 => absurd v1.1.1 c9)
  refine lv_aload_n hx hb dX11_wind_45 rfl (lv_at hl 0 rfl) ?_
  refine va_get (D := D) (ci := 11) (v := .ref h1) (C := RX11) (T := TX11) (N := 15) hx hb hts iX11 hown hK hP 0 rfl rfl 1 (by decide) (hts _ kw34) (fun _ h9 => h9) rfl dX11_wind_46 ?_
  refine lv_iload_n hx hb dX11_wind_49 rfl (lv_at hl 1 rfl) ?_
  refine lv_iload_n hx hb dX11_wind_50 rfl (lv_at hl 2 rfl) ?_
  refine q_runP (va_runS (As := [.int a0, .int a1]) (rest := [.ref h1]) ⟨hx, hb, hml, hown, hts⟩ (c_slotOf l a0 a1) (cwS 2 hts (gTS kw245 kw246 kw247 kw3) rfl rfl rfl hd15 ⟨(Nat.le_of_ble_eq_true rfl), (Nat.le_of_ble_eq_true rfl)⟩) preEq rfl rfl hl.1 rfl (lv_room (Nat.le_of_ble_eq_true rfl)) dX11_wind_51 ⟨(Nat.le_of_ble_eq_true rfl), (Nat.le_of_ble_eq_true rfl)⟩) ?_
  refine lv_iload_n hx hb dX11_wind_54 rfl (lv_at hl 3 rfl) ?_
  refine lv_iload hx hb dX11_wind_55 (lv_at hl 4 rfl) ?_
  refine lv_iload hx hb dX11_wind_57 (lv_at hl 5 rfl) ?_
  refine lv_iload hx hb dX11_wind_59 (lv_at hl 6 rfl) ?_
  refine q_runP (va_runS (As := [.int a4, .int a5]) (rest := [.int a3, .int a2, .int (((a0 - 1) * 4) + a1), .ref h1]) ⟨hx, hb, hml, hown, hts⟩ (c_windOf l a4 a5) (cwS 2 hts (gTS kw248 kw249 kw250 kw3) rfl rfl rfl hd16 ⟨(Nat.le_of_ble_eq_true rfl), (Nat.le_of_ble_eq_true rfl)⟩) preEq rfl rfl hl.1 rfl (lv_room (Nat.le_of_ble_eq_true rfl)) dX11_wind_61 ⟨(Nat.le_of_ble_eq_true rfl), (Nat.le_of_ble_eq_true rfl)⟩) ?_
  refine q_run (D := D) (w1 := w_X8_blow_1 h1 h3 h12 h13 h14 k0 (((a0 - 1) * 4) + a1) a2 a3 (((10 * (a4 + 3)) + a5) + 3)) (t1 := t_X8_blow_1) (o := none) (ws := [(h0, .inr (11, [.int 0, .ref h1, .ref h4, .ref h5, .int 0, .ref h6, .int 0, .ref h2, .ref h7, .ref h8, .ref h9, .int 0, .ref h10, .int (-1), .ref h11])), (h1, .inr (8, [.ref h3, .ref h12, .ref h13, .ref h14, .int 0, .int 0])), (h2, .inr (7, [.ref h15, .ref h16, .ref h17, .ref h18, .ref h19, .ref h20, .ref h21, .ref h22, .ref h23, .int 0, .int 0, .int 0, .int 0])), (h3, .inl (k0, 24000, .inl (fun _ => 0)))]) (wc := [(h1, .inr (8, [.ref h3, .ref h12, .ref h13, .ref h14, .int 0, .int 0])), (h3, .inl (k0, 24000, .inl (fun _ => 0)))]) (wr := [(h0, .inr (11, [.int 0, .ref h1, .ref h4, .ref h5, .int 0, .ref h6, .int 0, .ref h2, .ref h7, .ref h8, .ref h9, .int 0, .ref h10, .int (-1), .ref h11])), (h2, .inr (7, [.ref h15, .ref h16, .ref h17, .ref h18, .ref h19, .ref h20, .ref h21, .ref h22, .ref h23, .int 0, .int 0, .int 0, .int 0]))]) (va_runV (C := RX8) (b := h1) (As := [.int (((a0 - 1) * 4) + a1), .int a2, .int a3, .int (((10 * (a4 + 3)) + a5) + 3)]) (rest := []) ⟨hx, hb, hml, hown, hts⟩ (c_X8_blow_1 l D h1 h3 h12 h13 h14 k0 (((a0 - 1) * 4) + a1) a2 a3 (((10 * (a4 + 3)) + a5) + 3) s.heap.size v1) (cwV 4 hts (gTV kw253 kw254 kw255 kw256 kw20) rfl rfl rfl hd19 ⟨(Nat.le_of_ble_eq_true rfl), (Nat.le_of_ble_eq_true rfl)⟩) ⟨SP.blind, q_recv (ws := [(h0, .inr (11, [.int 0, .ref h1, .ref h4, .ref h5, .int 0, .ref h6, .int 0, .ref h2, .ref h7, .ref h8, .ref h9, .int 0, .ref h10, .int (-1), .ref h11])), (h1, .inr (8, [.ref h3, .ref h12, .ref h13, .ref h14, .int 0, .int 0])), (h2, .inr (7, [.ref h15, .ref h16, .ref h17, .ref h18, .ref h19, .ref h20, .ref h21, .ref h22, .ref h23, .int 0, .int 0, .int 0, .int 0])), (h3, .inl (k0, 24000, .inl (fun _ => 0)))]) (wc := []) (r := (RX8, TX8, 6)) (ci := 8) (i := 1) hP hK rfl rfl, (SP.pre hP hK hD hE [1, 3] [0] rfl rfl rfl).2⟩ rfl rfl hl.1 rfl (lv_room (Nat.le_of_ble_eq_true rfl)) dX11_wind_64 ⟨(Nat.le_of_ble_eq_true rfl), (Nat.le_of_ble_eq_true rfl)⟩) hP hK hD hS hA [1, 3] [0, 2] rfl rfl rfl (by decide) (fun u H locs hP hK hD hS => ?_)
  refine W.eq (g2 := F0 m 67 ls []) rfl ?_
  refine W.cs (cells' := 0) (slots' := 0) rfl rfl ?_
  have hP : va_P D vwCl [(h0, .inr (11, [.int 0, .ref h1, .ref h4, .ref h5, .int 0, .ref h6, .int 0, .ref h2, .ref h7, .ref h8, .ref h9, .int 0, .ref h10, .int (-1), .ref h11])), (h2, .inr (7, [.ref h15, .ref h16, .ref h17, .ref h18, .ref h19, .ref h20, .ref h21, .ref h22, .ref h23, .int 0, .int 0, .int 0, .int 0])), (h1, .inr (8, [.ref h3, .ref h12, .ref h13, .ref h14, .int 0, .int 0]))] H := hP
  have hD : va_D A [(h0, .inr (11, [.int 0, .ref h1, .ref h4, .ref h5, .int 0, .ref h6, .int 0, .ref h2, .ref h7, .ref h8, .ref h9, .int 0, .ref h10, .int (-1), .ref h11])), (h2, .inr (7, [.ref h15, .ref h16, .ref h17, .ref h18, .ref h19, .ref h20, .ref h21, .ref h22, .ref h23, .int 0, .int 0, .int 0, .int 0])), (h1, .inr (8, [.ref h3, .ref h12, .ref h13, .ref h14, .int 0, .int 0]))] := hD
  have hK : va_K D vwCl [(k0, .int)] s := hK
  refine lv_aload_n hx hb dX11_wind_67 rfl (lv_at hl 0 rfl) ?_
  refine va_get (D := D) (ci := 11) (v := .ref h2) (C := RX11) (T := TX11) (N := 15) hx hb hts iX11 hown hK hP 0 rfl rfl 7 (by decide) (hts _ kw81) (fun _ h9 => h9) rfl dX11_wind_68 ?_
  refine q_run (D := D) (w1 := w_X7_forgetWays_1 h2 h15 h16 h17 h18 h19 h20 h21 h22 h23) (t1 := t_X7_forgetWays_1) (o := none) (ws := [(h0, .inr (11, [.int 0, .ref h1, .ref h4, .ref h5, .int 0, .ref h6, .int 0, .ref h2, .ref h7, .ref h8, .ref h9, .int 0, .ref h10, .int (-1), .ref h11])), (h2, .inr (7, [.ref h15, .ref h16, .ref h17, .ref h18, .ref h19, .ref h20, .ref h21, .ref h22, .ref h23, .int 0, .int 0, .int 0, .int 0])), (h1, .inr (8, [.ref h3, .ref h12, .ref h13, .ref h14, .int 0, .int 0]))]) (wc := [(h2, .inr (7, [.ref h15, .ref h16, .ref h17, .ref h18, .ref h19, .ref h20, .ref h21, .ref h22, .ref h23, .int 0, .int 0, .int 0, .int 0]))]) (wr := [(h0, .inr (11, [.int 0, .ref h1, .ref h4, .ref h5, .int 0, .ref h6, .int 0, .ref h2, .ref h7, .ref h8, .ref h9, .int 0, .ref h10, .int (-1), .ref h11])), (h1, .inr (8, [.ref h3, .ref h12, .ref h13, .ref h14, .int 0, .int 0]))]) (va_runV (C := RX7) (b := h2) (As := []) (rest := []) ⟨hx, hb, hml, hown, hts⟩ (c_X7_forgetWays_1 l D h2 h15 h16 h17 h18 h19 h20 h21 h22 h23 H.size) (cwV 0 hts (gTV kw257 kw258 kw259 kw260 kw63) rfl rfl rfl hd20 ⟨(Nat.le_of_ble_eq_true rfl), (Nat.le_of_ble_eq_true rfl)⟩) ⟨SP.blind, q_recv (ws := [(h0, .inr (11, [.int 0, .ref h1, .ref h4, .ref h5, .int 0, .ref h6, .int 0, .ref h2, .ref h7, .ref h8, .ref h9, .int 0, .ref h10, .int (-1), .ref h11])), (h2, .inr (7, [.ref h15, .ref h16, .ref h17, .ref h18, .ref h19, .ref h20, .ref h21, .ref h22, .ref h23, .int 0, .int 0, .int 0, .int 0])), (h1, .inr (8, [.ref h3, .ref h12, .ref h13, .ref h14, .int 0, .int 0]))]) (wc := []) (r := (RX7, TX7, 13)) (ci := 7) (i := 1) hP hK rfl rfl, (SP.pre hP hK hD hE [1] [] rfl rfl rfl).2⟩ rfl rfl hl.1 rfl (lv_room (Nat.le_of_ble_eq_true rfl)) dX11_wind_71 ⟨(Nat.le_of_ble_eq_true rfl), (Nat.le_of_ble_eq_true rfl)⟩) hP hK hD hS hA [1] [0, 2] rfl rfl rfl (by decide) (fun u H locs hP hK hD hS => ?_)
  refine W.eq (g2 := F0 m 74 ls []) rfl ?_
  refine W.cs (cells' := 0) (slots' := 0) rfl rfl ?_
  have hP : va_P D vwCl [(h0, .inr (11, [.int 0, .ref h1, .ref h4, .ref h5, .int 0, .ref h6, .int 0, .ref h2, .ref h7, .ref h8, .ref h9, .int 0, .ref h10, .int (-1), .ref h11])), (h1, .inr (8, [.ref h3, .ref h12, .ref h13, .ref h14, .int 0, .int 0])), (h2, .inr (7, [.ref h15, .ref h16, .ref h17, .ref h18, .ref h19, .ref h20, .ref h21, .ref h22, .ref h23, .int 0, .int 0, .int 0, .int 0]))] H := hP
  have hD : va_D A [(h0, .inr (11, [.int 0, .ref h1, .ref h4, .ref h5, .int 0, .ref h6, .int 0, .ref h2, .ref h7, .ref h8, .ref h9, .int 0, .ref h10, .int (-1), .ref h11])), (h1, .inr (8, [.ref h3, .ref h12, .ref h13, .ref h14, .int 0, .int 0])), (h2, .inr (7, [.ref h15, .ref h16, .ref h17, .ref h18, .ref h19, .ref h20, .ref h21, .ref h22, .ref h23, .int 0, .int 0, .int 0, .int 0]))] := hD
  have hK : va_K D vwCl [(k0, .int)] s := hK
  refine lv_iconst (v := 1) hx hb dX11_wind_74 (by decide) ?_
  exact q_iret () hx hb hr hlocks hP hK hD hS [0, 1, 2] [] rfl rfl rfl dX11_wind_75 (Nat.le_of_ble_eq_true rfl) (Nat.le_of_ble_eq_true rfl)
set_option maxHeartbeats 4000000 in
set_option maxRecDepth 100000 in
theorem c_X11_require_1 (l : Launch) (hst : l.stackTraces = false) (D : va_G) (sz : Nat) : vx_Met l yX11_require (.code yX11_require cX11_require 1 none :: wT) ({ frames := 6, cells := 1, slots := 6, locals := 83 } : Room) (SPx D [.int 0] [] [] sz) QNo (XQ "java/lang/IllegalArgumentException" (va_A [] sz)) 1 6 (va_A [] sz) := by
  refine SPx.start (by decide) (Nat.le_of_ble_eq_true rfl) ?_
  intro p e s m below meth c ls A hx hb hr hml hown hts hlocks htab hA hP hK hD hE hZ hl hS
  have hown : s.vm.findClass RX11 = some m.cls := hown
  have hl : lv_has ls 1 [(0, .int 0)] := hl
  refine lv_iload_n hx hb dX11_require_0 rfl (lv_at hl 0 rfl) ?_
  refine lv_if_ne (tgt := 15) hx hb dX11_require_1 (by decide) (fun c9 => absurd (by decide +kernel) c9) (fun _ => ?_)
  obtain ⟨sa, hsa⟩ := hE.2.1
  exact vx_throwSW hx hb hst hown (cls := "java/lang/IllegalArgumentException") (names := ["java/lang/RuntimeException", "java/lang/Exception"]) rfl (by decide) (hts _ kw261) (hts _ kw262) hsa (xw_IllegalArgumentException hts hE) xw_IllegalArgumentException_g hZ.1 hZ.2 hS (by rw [hml]; exact hl.1) dX11_require_4 dX11_require_7 dX11_require_8 dX11_require_11 dX11_require_14 (fun x h => (htab x h).elim) (by decide) (by decide) (Nat.le_of_ble_eq_true rfl) (Nat.le_of_ble_eq_true rfl) hlocks (fun t ht h1 h2 => ⟨rfl, Nat.le_trans hS.1 h1, fun q g1 g2 => (h2 q (Nat.lt_of_lt_of_le g1 hS.1)).trans (hS.2.1 q g1 g2)⟩) hS.2.2 (Nat.le_of_ble_eq_true rfl) (Nat.le_of_ble_eq_true rfl)
set_option maxHeartbeats 4000000 in
set_option maxRecDepth 100000 in
theorem c_X11_wind_2 (l : Launch) (hst : l.stackTraces = false) (D : va_G) (h0 : Nat) (a0 a1 a2 a3 a4 a5 : Int32) (sz : Nat) (v0 : ¬ vWind a0 a1 a2 a3 a4 a5) : vx_Met l yX11_wind (.code yX11_wind cX11_wind 7 (some .int) :: wT) ({ frames := 7, cells := 1, slots := 6, locals := 103 } : Room) (SPx D [.ref h0, .int a0, .int a1, .int a2, .int a3, .int a4, .int a5] [] [] sz) QNo (XQ "java/lang/IllegalArgumentException" (va_A [] sz)) 1 6 (va_A [] sz) := by
  refine SPx.start (by decide) (Nat.le_of_ble_eq_true rfl) ?_
  intro p e s m below meth c ls A hx hb hr hml hown hts hlocks htab hA hP hK hD hE hZ hl hS
  have hown : s.vm.findClass RX11 = some m.cls := hown
  have hl : lv_has ls 7 [(0, .ref h0), (1, .int a0), (2, .int a1), (3, .int a2), (4, .int a3), (5, .int a4), (6, .int a5)] := hl
  refine lv_iload_n hx hb dX11_wind_0 rfl (lv_at hl 1 rfl) ?_
  refine lv_iload_n hx hb dX11_wind_1 rfl (lv_at hl 2 rfl) ?_
  refine q_runP (va_runS (As := [.int a0, .int a1]) (rest := []) ⟨hx, hb, hml, hown, hts⟩ (c_isAir l a0 a1) (cwS 2 hts (gTS kw233 kw234 kw235 kw3) rfl rfl rfl hd11 ⟨(Nat.le_of_ble_eq_true rfl), (Nat.le_of_ble_eq_true rfl)⟩) preEq rfl rfl hl.1 rfl (lv_room (Nat.le_of_ble_eq_true rfl)) dX11_wind_2 ⟨(Nat.le_of_ble_eq_true rfl), (Nat.le_of_ble_eq_true rfl)⟩) ?_
  refine lv_if_eq (tgt := 31) hx hb dX11_wind_5 (by decide) (fun c1 => ?_) (fun c1 => ?_)
  · have c1 := bz_n c1
    refine lv_iconst (v := 0) hx hb dX11_wind_31 (by decide) ?_
    exact q_xout (B := va_A [] s.heap.size) (vx_runS (As := [.int 0]) (rest := []) ⟨hx, hb, hml, hown, hts⟩ (c_X11_require_1 l hst D s.heap.size) (cwS 1 hts (gTS kw242 kw243 kw244 kw3) rfl rfl rfl hd14 ⟨(Nat.le_of_ble_eq_true rfl), (Nat.le_of_ble_eq_true rfl)⟩) (SPx.pre hP hK hD hE hZ hS hA [] [] rfl rfl rfl) rfl rfl hl.1 rfl (lv_room (Nat.le_of_ble_eq_true rfl)) dX11_wind_32 ⟨(Nat.le_of_ble_eq_true rfl), (Nat.le_of_ble_eq_true rfl)⟩) hS (va_free (wc := []) hD hS hA [] rfl) htab hlocks (Nat.le_of_ble_eq_true rfl) (Nat.le_of_ble_eq_true rfl)
  · have c1 := bz_p c1
    refine lv_iload_n hx hb dX11_wind_8 rfl (lv_at hl 3 rfl) ?_
    refine lv_iload hx hb dX11_wind_9 (lv_at hl 4 rfl) ?_
    refine q_runP (va_runS (As := [.int a2, .int a3]) (rest := []) ⟨hx, hb, hml, hown, hts⟩ (c_areHours l a2 a3) (cwS 2 hts (gTS kw236 kw237 kw238 kw3) rfl rfl rfl hd12 ⟨(Nat.le_of_ble_eq_true rfl), (Nat.le_of_ble_eq_true rfl)⟩) preEq rfl rfl hl.1 rfl (lv_room (Nat.le_of_ble_eq_true rfl)) dX11_wind_11 ⟨(Nat.le_of_ble_eq_true rfl), (Nat.le_of_ble_eq_true rfl)⟩) ?_
    refine lv_if_eq (tgt := 31) hx hb dX11_wind_14 (by decide) (fun c2 => ?_) (fun c2 => ?_)
    · have c2 := bz_n c2
      refine lv_iconst (v := 0) hx hb dX11_wind_31 (by decide) ?_
      exact q_xout (B := va_A [] s.heap.size) (vx_runS (As := [.int 0]) (rest := []) ⟨hx, hb, hml, hown, hts⟩ (c_X11_require_1 l hst D s.heap.size) (cwS 1 hts (gTS kw242 kw243 kw244 kw3) rfl rfl rfl hd14 ⟨(Nat.le_of_ble_eq_true rfl), (Nat.le_of_ble_eq_true rfl)⟩) (SPx.pre hP hK hD hE hZ hS hA [] [] rfl rfl rfl) rfl rfl hl.1 rfl (lv_room (Nat.le_of_ble_eq_true rfl)) dX11_wind_32 ⟨(Nat.le_of_ble_eq_true rfl), (Nat.le_of_ble_eq_true rfl)⟩) hS (va_free (wc := []) hD hS hA [] rfl) htab hlocks (Nat.le_of_ble_eq_true rfl) (Nat.le_of_ble_eq_true rfl)
    · have c2 := bz_p c2
      refine lv_iload hx hb dX11_wind_17 (lv_at hl 5 rfl) ?_
      refine lv_iload hx hb dX11_wind_19 (lv_at hl 6 rfl) ?_
      refine q_runP (va_runS (As := [.int a4, .int a5]) (rest := []) ⟨hx, hb, hml, hown, hts⟩ (c_arePulls l a4 a5) (cwS 2 hts (gTS kw239 kw240 kw241 kw3) rfl rfl rfl hd13 ⟨(Nat.le_of_ble_eq_true rfl), (Nat.le_of_ble_eq_true rfl)⟩) preEq rfl rfl hl.1 rfl (lv_room (Nat.le_of_ble_eq_true rfl)) dX11_wind_21 ⟨(Nat.le_of_ble_eq_true rfl), (Nat.le_of_ble_eq_true rfl)⟩) ?_
      refine lv_if_eq (tgt := 31) hx hb dX11_wind_24 (by decide) (fun c3 => ?_) (fun c3 => ?_)
      · have c3 := bz_n c3
        refine lv_iconst (v := 0) hx hb dX11_wind_31 (by decide) ?_
        exact q_xout (B := va_A [] s.heap.size) (vx_runS (As := [.int 0]) (rest := []) ⟨hx, hb, hml, hown, hts⟩ (c_X11_require_1 l hst D s.heap.size) (cwS 1 hts (gTS kw242 kw243 kw244 kw3) rfl rfl rfl hd14 ⟨(Nat.le_of_ble_eq_true rfl), (Nat.le_of_ble_eq_true rfl)⟩) (SPx.pre hP hK hD hE hZ hS hA [] [] rfl rfl rfl) rfl rfl hl.1 rfl (lv_room (Nat.le_of_ble_eq_true rfl)) dX11_wind_32 ⟨(Nat.le_of_ble_eq_true rfl), (Nat.le_of_ble_eq_true rfl)⟩) hS (va_free (wc := []) hD hS hA [] rfl) htab hlocks (Nat.le_of_ble_eq_true rfl) (Nat.le_of_ble_eq_true rfl)
      · have c3 := bz_p c3
        exact absurd (show vWind a0 a1 a2 a3 a4 a5 from ⟨c1, c2, c3⟩) v0
abbrev w_X2_init_1 (h0 : Nat) (a0 a1 a2 a3 : Int32) (_ : Unit) : va_W := [(h0, .inr (2, [.int 0, .int a0, .int a1, .int (a1 + a2), .int a3]))]
abbrev t_X2_init_1 (_ : Unit) : List (ClassId × FieldType) := []
abbrev Q_X2_init_1 (D : va_G) (h0 : Nat) (a0 a1 a2 a3 : Int32) (A : Nat → Prop) : Array Value → State → Outcome → State → Prop := QW (.returned none) D (w_X2_init_1 h0 a0 a1 a2 a3) t_X2_init_1 A
set_option maxHeartbeats 4000000 in
set_option maxRecDepth 100000 in
theorem c_X2_init_1 (l : Launch) (D : va_G) (h0 : Nat) (a0 a1 a2 a3 : Int32) (sz : Nat) : Met l yX2_init (.code yX2_init cX2_init 6 none :: wT) ({ frames := 1, cells := 0, slots := 0, locals := 12 } : Room) (SP D [.ref h0, .int 0, .int a0, .int a1, .int a2, .int a3] [(h0, .inr (2, [.int 0, .int 0, .int 0, .int 0, .int 0]))] [] sz) (Q_X2_init_1 D h0 a0 a1 a2 a3 (va_A [(h0, .inr (2, [.int 0, .int 0, .int 0, .int 0, .int 0]))] sz)) 0 0 (va_A [(h0, .inr (2, [.int 0, .int 0, .int 0, .int 0, .int 0]))] sz) := by
  refine SP.start (Qf := Q_X2_init_1 D h0 a0 a1 a2 a3) (by decide) (Nat.le_of_ble_eq_true rfl) ?_
  intro p e s m below meth c ls A hx hb hr hml hown hts hlocks hname hA hP hK hD hE hl hS
  have hown : s.vm.findClass RX2 = some m.cls := hown
  have hl : lv_has ls 6 [(0, .ref h0), (1, .int 0), (2, .int a0), (3, .int a1), (4, .int a2), (5, .int a3)] := hl
  refine lv_aload_n hx hb dX2_init_0 rfl (lv_at hl 0 rfl) ?_
  refine W.objInit hx hb hown (hts _ kw266) (hts _ kw15) (hts _ kw16) rfl (by rw [hml]; exact hl.1) rfl dX2_init_1 (Nat.le_of_ble_eq_true rfl) (Nat.le_of_ble_eq_true rfl) ?_
  refine W.eq (g2 := F0 m 4 ls []) rfl ?_
  refine lv_aload_n hx hb dX2_init_4 rfl (lv_at hl 0 rfl) ?_
  refine lv_iload_n hx hb dX2_init_5 rfl (lv_at hl 1 rfl) ?_
  refine va_putF (D := D) (ci := 2) (v := .int 0) (ty := .int) (C := RX2) (T := TX2) (N := 5) hx hb hts iX2 tyX2 tyX2_ok nmX2 hown hK hP hD hS 0 rfl rfl 0 (by decide) (hts _ kw267) (fun _ h9 => h9) rfl hname rfl (tyX2_ok 0 (by decide)) rfl rfl (Nat.le_of_ble_eq_true rfl) dX2_init_6 (fun H locs hP hD hS => ?_)
  have hP : va_P D vwCl [(h0, .inr (2, [.int 0, .int 0, .int 0, .int 0, .int 0]))] H := hP
  have hD : va_D A [(h0, .inr (2, [.int 0, .int 0, .int 0, .int 0, .int 0]))] := hD
  refine lv_aload_n hx hb dX2_init_9 rfl (lv_at hl 0 rfl) ?_
  refine lv_iload_n hx hb dX2_init_10 rfl (lv_at hl 2 rfl) ?_
  refine va_putF (D := D) (ci := 2) (v := .int a0) (ty := .int) (C := RX2) (T := TX2) (N := 5) hx hb hts iX2 tyX2 tyX2_ok nmX2 hown hK hP hD hS 0 rfl rfl 1 (by decide) (hts _ kw268) (fun _ h9 => h9) rfl hname rfl (tyX2_ok 1 (by decide)) rfl rfl (Nat.le_of_ble_eq_true rfl) dX2_init_11 (fun H locs hP hD hS => ?_)
  have hP : va_P D vwCl [(h0, .inr (2, [.int 0, .int a0, .int 0, .int 0, .int 0]))] H := hP
  have hD : va_D A [(h0, .inr (2, [.int 0, .int a0, .int 0, .int 0, .int 0]))] := hD
  refine lv_aload_n hx hb dX2_init_14 rfl (lv_at hl 0 rfl) ?_
  refine lv_iload_n hx hb dX2_init_15 rfl (lv_at hl 3 rfl) ?_
  refine va_putF (D := D) (ci := 2) (v := .int a1) (ty := .int) (C := RX2) (T := TX2) (N := 5) hx hb hts iX2 tyX2 tyX2_ok nmX2 hown hK hP hD hS 0 rfl rfl 2 (by decide) (hts _ kw269) (fun _ h9 => h9) rfl hname rfl (tyX2_ok 2 (by decide)) rfl rfl (Nat.le_of_ble_eq_true rfl) dX2_init_16 (fun H locs hP hD hS => ?_)
  have hP : va_P D vwCl [(h0, .inr (2, [.int 0, .int a0, .int a1, .int 0, .int 0]))] H := hP
  have hD : va_D A [(h0, .inr (2, [.int 0, .int a0, .int a1, .int 0, .int 0]))] := hD
  refine lv_aload_n hx hb dX2_init_19 rfl (lv_at hl 0 rfl) ?_
  refine lv_iload_n hx hb dX2_init_20 rfl (lv_at hl 3 rfl) ?_
  refine lv_iload hx hb dX2_init_21 (lv_at hl 4 rfl) ?_
  refine lv_iadd hx hb dX2_init_23 ?_
  refine va_putF (D := D) (ci := 2) (v := .int (a1 + a2)) (ty := .int) (C := RX2) (T := TX2) (N := 5) hx hb hts iX2 tyX2 tyX2_ok nmX2 hown hK hP hD hS 0 rfl rfl 3 (by decide) (hts _ kw270) (fun _ h9 => h9) rfl hname rfl (tyX2_ok 3 (by decide)) rfl rfl (Nat.le_of_ble_eq_true rfl) dX2_init_24 (fun H locs hP hD hS => ?_)
  have hP : va_P D vwCl [(h0, .inr (2, [.int 0, .int a0, .int a1, .int (a1 + a2), .int 0]))] H := hP
  have hD : va_D A [(h0, .inr (2, [.int 0, .int a0, .int a1, .int (a1 + a2), .int 0]))] := hD
  refine lv_aload_n hx hb dX2_init_27 rfl (lv_at hl 0 rfl) ?_
  refine lv_iload hx hb dX2_init_28 (lv_at hl 5 rfl) ?_
  refine va_putF (D := D) (ci := 2) (v := .int a3) (ty := .int) (C := RX2) (T := TX2) (N := 5) hx hb hts iX2 tyX2 tyX2_ok nmX2 hown hK hP hD hS 0 rfl rfl 4 (by decide) (hts _ kw271) (fun _ h9 => h9) rfl hname rfl (tyX2_ok 4 (by decide)) rfl rfl (Nat.le_of_ble_eq_true rfl) dX2_init_30 (fun H locs hP hD hS => ?_)
  have hP : va_P D vwCl [(h0, .inr (2, [.int 0, .int a0, .int a1, .int (a1 + a2), .int a3]))] H := hP
  have hD : va_D A [(h0, .inr (2, [.int 0, .int a0, .int a1, .int (a1 + a2), .int a3]))] := hD
  exact q_vret () hx hb hr hlocks hP hK hD hS [0] [] rfl rfl rfl dX2_init_33 (Nat.le_of_ble_eq_true rfl) (Nat.le_of_ble_eq_true rfl)
abbrev w_X8_tell_1 (h0 h1 h2 h3 h4 h5 : Nat) (k0 : ClassId) (a0 a1 a2 a3 : Int32) (_ : Unit) : va_W := [(h0, .inr (8, [.ref h3, .ref h4, .ref h5, .ref h2, .int 1, .int 0])), (h1, .inr (2, [.int 0, .int a0, .int a1, .int a2, .int a3])), (h2, .inl (k0, 100, .inr (.inr (.inr (.inr (va_up (fun _ => none) 0 (some h1)))))))]
abbrev t_X8_tell_1 (_ : Unit) : List (ClassId × FieldType) := []
abbrev Q_X8_tell_1 (D : va_G) (h0 h1 h2 h3 h4 h5 : Nat) (k0 : ClassId) (a0 a1 a2 a3 : Int32) (A : Nat → Prop) : Array Value → State → Outcome → State → Prop := QW (.returned (some (.int 1))) D (w_X8_tell_1 h0 h1 h2 h3 h4 h5 k0 a0 a1 a2 a3) t_X8_tell_1 A
set_option maxHeartbeats 4000000 in
set_option maxRecDepth 100000 in
theorem c_X8_tell_1 (l : Launch) (D : va_G) (h0 h1 h2 h3 h4 h5 : Nat) (k0 : ClassId) (a0 a1 a2 a3 : Int32) (sz : Nat) : Met l yX8_tell (.code yX8_tell cX8_tell 2 (some .int) :: wT) ({ frames := 0, cells := 0, slots := 0, locals := 0 } : Room) (SP D [.ref h0, .ref h1] [(h0, .inr (8, [.ref h3, .ref h4, .ref h5, .ref h2, .int 0, .int 0])), (h1, .inr (2, [.int 0, .int a0, .int a1, .int a2, .int a3])), (h2, .inl (k0, 100, .inr (.inr (.inr (.inr (fun _ => none))))))] [(k0, .object "BalloonHouse$Forecast")] sz) (Q_X8_tell_1 D h0 h1 h2 h3 h4 h5 k0 a0 a1 a2 a3 (va_A [(h0, .inr (8, [.ref h3, .ref h4, .ref h5, .ref h2, .int 0, .int 0])), (h1, .inr (2, [.int 0, .int a0, .int a1, .int a2, .int a3])), (h2, .inl (k0, 100, .inr (.inr (.inr (.inr (fun _ => none))))))] sz)) 0 0 (va_A [(h0, .inr (8, [.ref h3, .ref h4, .ref h5, .ref h2, .int 0, .int 0])), (h1, .inr (2, [.int 0, .int a0, .int a1, .int a2, .int a3])), (h2, .inl (k0, 100, .inr (.inr (.inr (.inr (fun _ => none))))))] sz) := by
  refine SP.start (Qf := Q_X8_tell_1 D h0 h1 h2 h3 h4 h5 k0 a0 a1 a2 a3) (by decide) (Nat.le_of_ble_eq_true rfl) ?_
  intro p e s m below meth c ls A hx hb hr hml hown hts hlocks hname hA hP hK hD hE hl hS
  have hown : s.vm.findClass RX8 = some m.cls := hown
  have hl : lv_has ls 2 [(0, .ref h0), (1, .ref h1)] := hl
  refine lv_aload_n hx hb dX8_tell_0 rfl (lv_at hl 0 rfl) ?_
  refine va_get (D := D) (ci := 8) (v := .int 0) (C := RX8) (T := TX8) (N := 6) hx hb hts iX8 hown hK hP 0 rfl rfl 4 (by decide) (hts _ kw29) (fun _ h9 => h9) rfl dX8_tell_1 ?_
  refine lv_bipush (v := 100) hx hb dX8_tell_4 (by decide) ?_
  refine lv_icmp_lt (tgt := 11) hx hb dX8_tell_6 (by decide) (fun _ => ?_) (fun c9 => absurd (by decide +kernel) c9)
  refine lv_aload_n hx hb dX8_tell_11 rfl (lv_at hl 0 rfl) ?_
  refine va_get (D := D) (ci := 8) (v := .ref h2) (C := RX8) (T := TX8) (N := 6) hx hb hts iX8 hown hK hP 0 rfl rfl 3 (by decide) (hts _ kw28) (fun _ h9 => h9) rfl dX8_tell_12 ?_
  refine lv_aload_n hx hb dX8_tell_15 rfl (lv_at hl 0 rfl) ?_
  refine va_get (D := D) (ci := 8) (v := .int 0) (C := RX8) (T := TX8) (N := 6) hx hb hts iX8 hown hK hP 0 rfl rfl 4 (by decide) (hts _ kw29) (fun _ h9 => h9) rfl dX8_tell_16 ?_
  refine lv_aload_n hx hb dX8_tell_19 rfl (lv_at hl 1 rfl) ?_
  refine va_astq hx hb hK hP hD hS 2 0 1 2 rfl rfl rfl rfl (vin (by decide)) dX8_tell_20 (fun H locs hP hD hS => ?_)
  have hP : va_P D vwCl [(h0, .inr (8, [.ref h3, .ref h4, .ref h5, .ref h2, .int 0, .int 0])), (h1, .inr (2, [.int 0, .int a0, .int a1, .int a2, .int a3])), (h2, .inl (k0, 100, .inr (.inr (.inr (.inr (va_up (fun _ => none) 0 (some h1)))))))] H := hP
  have hD : va_D A [(h0, .inr (8, [.ref h3, .ref h4, .ref h5, .ref h2, .int 0, .int 0])), (h1, .inr (2, [.int 0, .int a0, .int a1, .int a2, .int a3])), (h2, .inl (k0, 100, .inr (.inr (.inr (.inr (va_up (fun _ => none) 0 (some h1)))))))] := hD
  refine lv_aload_n hx hb dX8_tell_21 rfl (lv_at hl 0 rfl) ?_
  refine lv_dup hx hb dX8_tell_22 rfl ?_
  refine va_get (D := D) (ci := 8) (v := .int 0) (C := RX8) (T := TX8) (N := 6) hx hb hts iX8 hown hK hP 0 rfl rfl 4 (by decide) (hts _ kw29) (fun _ h9 => h9) rfl dX8_tell_23 ?_
  refine lv_iconst (v := 1) hx hb dX8_tell_26 (by decide) ?_
  refine lv_iadd hx hb dX8_tell_27 ?_
  refine lv_lit (v := 1) (by decide +kernel) ?_
  refine va_put (D := D) (ci := 8) (v := .int 1) (ty := .int) (C := RX8) (T := TX8) (N := 6) hx hb hts iX8 tyX8 tyX8_ok nmX8 hown hK hP hD hS 0 rfl rfl 4 (by decide) (hts _ kw29) (fun _ h9 => h9) rfl (tyX8_ok 4 (by decide)) rfl rfl (Nat.le_of_ble_eq_true rfl) dX8_tell_28 (fun H locs hP hD hS => ?_)
  have hP : va_P D vwCl [(h0, .inr (8, [.ref h3, .ref h4, .ref h5, .ref h2, .int 1, .int 0])), (h1, .inr (2, [.int 0, .int a0, .int a1, .int a2, .int a3])), (h2, .inl (k0, 100, .inr (.inr (.inr (.inr (va_up (fun _ => none) 0 (some h1)))))))] H := hP
  have hD : va_D A [(h0, .inr (8, [.ref h3, .ref h4, .ref h5, .ref h2, .int 1, .int 0])), (h1, .inr (2, [.int 0, .int a0, .int a1, .int a2, .int a3])), (h2, .inl (k0, 100, .inr (.inr (.inr (.inr (va_up (fun _ => none) 0 (some h1)))))))] := hD
  refine lv_aload_n hx hb dX8_tell_31 rfl (lv_at hl 0 rfl) ?_
  refine va_get (D := D) (ci := 8) (v := .int 1) (C := RX8) (T := TX8) (N := 6) hx hb hts iX8 hown hK hP 0 rfl rfl 4 (by decide) (hts _ kw29) (fun _ h9 => h9) rfl dX8_tell_32 ?_
  exact q_iret () hx hb hr hlocks hP hK hD hS [0, 1, 2] [] rfl rfl rfl dX8_tell_35 (Nat.le_of_ble_eq_true rfl) (Nat.le_of_ble_eq_true rfl)
abbrev w_X11_forecast_1 (h0 h1 h2 h3 h4 h5 h6 h7 h8 h9 h10 h11 h12 h13 h14 : Nat) (k0 : ClassId) (a0 a1 a2 a3 a4 a5 : Int32) (u : Nat) : va_W := [(h0, .inr (11, [.int 0, .ref h1, .ref h3, .ref h4, .int 0, .ref h5, .int 0, .ref h6, .ref h7, .ref h8, .ref h9, .int 0, .ref h10, .int (-1), .ref h11])), (h1, .inr (8, [.ref h12, .ref h13, .ref h14, .ref h2, .int 1, .int 0])), (h2, .inl (k0, 100, .inr (.inr (.inr (.inr (va_up (fun _ => none) 0 (some u))))))), (u, .inr (2, [.int 0, .int (((a0 - 1) * 4) + a1), .int a2, .int (a2 + a3), .int (((10 * (a4 + 3)) + a5) + 3)]))]
abbrev t_X11_forecast_1 (u : Nat) : List (ClassId × FieldType) := []
abbrev Q_X11_forecast_1 (D : va_G) (h0 h1 h2 h3 h4 h5 h6 h7 h8 h9 h10 h11 h12 h13 h14 : Nat) (k0 : ClassId) (a0 a1 a2 a3 a4 a5 : Int32) (A : Nat → Prop) : Array Value → State → Outcome → State → Prop := QW (.returned (some (.int 1))) D (w_X11_forecast_1 h0 h1 h2 h3 h4 h5 h6 h7 h8 h9 h10 h11 h12 h13 h14 k0 a0 a1 a2 a3 a4 a5) t_X11_forecast_1 A
set_option maxHeartbeats 4000000 in
set_option maxRecDepth 100000 in
theorem c_X11_forecast_1 (l : Launch) (D : va_G) (h0 h1 h2 h3 h4 h5 h6 h7 h8 h9 h10 h11 h12 h13 h14 : Nat) (k0 : ClassId) (a0 a1 a2 a3 a4 a5 : Int32) (sz : Nat) (v0 : pAir a0 a1) (v1 : pHours a2 a3) (v2 : pPull a4 a5) : Met l yX11_forecast (.code yX11_forecast cX11_forecast 7 (some .int) :: wT) ({ frames := 2, cells := 1, slots := 5, locals := 43 } : Room) (SP D [.ref h0, .int a0, .int a1, .int a2, .int a3, .int a4, .int a5] [(h0, .inr (11, [.int 0, .ref h1, .ref h3, .ref h4, .int 0, .ref h5, .int 0, .ref h6, .ref h7, .ref h8, .ref h9, .int 0, .ref h10, .int (-1), .ref h11])), (h1, .inr (8, [.ref h12, .ref h13, .ref h14, .ref h2, .int 0, .int 0])), (h2, .inl (k0, 100, .inr (.inr (.inr (.inr (fun _ => none))))))] [(k0, .object "BalloonHouse$Forecast")] sz) (Q_X11_forecast_1 D h0 h1 h2 h3 h4 h5 h6 h7 h8 h9 h10 h11 h12 h13 h14 k0 a0 a1 a2 a3 a4 a5 (va_A [(h0, .inr (11, [.int 0, .ref h1, .ref h3, .ref h4, .int 0, .ref h5, .int 0, .ref h6, .ref h7, .ref h8, .ref h9, .int 0, .ref h10, .int (-1), .ref h11])), (h1, .inr (8, [.ref h12, .ref h13, .ref h14, .ref h2, .int 0, .int 0])), (h2, .inl (k0, 100, .inr (.inr (.inr (.inr (fun _ => none))))))] sz)) 1 5 (va_A [(h0, .inr (11, [.int 0, .ref h1, .ref h3, .ref h4, .int 0, .ref h5, .int 0, .ref h6, .ref h7, .ref h8, .ref h9, .int 0, .ref h10, .int (-1), .ref h11])), (h1, .inr (8, [.ref h12, .ref h13, .ref h14, .ref h2, .int 0, .int 0])), (h2, .inl (k0, 100, .inr (.inr (.inr (.inr (fun _ => none))))))] sz) := by
  refine SP.start (Qf := Q_X11_forecast_1 D h0 h1 h2 h3 h4 h5 h6 h7 h8 h9 h10 h11 h12 h13 h14 k0 a0 a1 a2 a3 a4 a5) (by decide) (Nat.le_of_ble_eq_true rfl) ?_
  intro p e s m below meth c ls A hx hb hr hml hown hts hlocks hname hA hP hK hD hE hl hS
  have hown : s.vm.findClass RX11 = some m.cls := hown
  have hl : lv_has ls 7 [(0, .ref h0), (1, .int a0), (2, .int a1), (3, .int a2), (4, .int a3), (5, .int a4), (6, .int a5)] := hl
  refine lv_iload_n hx hb dX11_forecast_0 rfl (lv_at hl 1 rfl) ?_
  refine lv_iload_n hx hb dX11_forecast_1 rfl (lv_at hl 2 rfl) ?_
  refine q_runP (va_runS (As := [.int a0, .int a1]) (rest := []) ⟨hx, hb, hml, hown, hts⟩ (c_isAir l a0 a1) (cwS 2 hts (gTS kw233 kw234 kw235 kw3) rfl rfl rfl hd11 ⟨(Nat.le_of_ble_eq_true rfl), (Nat.le_of_ble_eq_true rfl)⟩) preEq rfl rfl hl.1 rfl (lv_room (Nat.le_of_ble_eq_true rfl)) dX11_forecast_2 ⟨(Nat.le_of_ble_eq_true rfl), (Nat.le_of_ble_eq_true rfl)⟩) ?_
  refine lv_if_eq (tgt := 31) hx hb dX11_forecast_5 (by decide) (fun c9 => absurd v0 (bz_n c9)) (fun _ => ?_)
  refine lv_iload_n hx hb dX11_forecast_8 rfl (lv_at hl 3 rfl) ?_
  refine lv_iload hx hb dX11_forecast_9 (lv_at hl 4 rfl) ?_
  refine q_runP (va_runS (As := [.int a2, .int a3]) (rest := []) ⟨hx, hb, hml, hown, hts⟩ (c_areHours l a2 a3) (cwS 2 hts (gTS kw236 kw237 kw238 kw3) rfl rfl rfl hd12 ⟨(Nat.le_of_ble_eq_true rfl), (Nat.le_of_ble_eq_true rfl)⟩) preEq rfl rfl hl.1 rfl (lv_room (Nat.le_of_ble_eq_true rfl)) dX11_forecast_11 ⟨(Nat.le_of_ble_eq_true rfl), (Nat.le_of_ble_eq_true rfl)⟩) ?_
  refine lv_if_eq (tgt := 31) hx hb dX11_forecast_14 (by decide) (fun c9 => absurd v1 (bz_n c9)) (fun _ => ?_)
  refine lv_iload hx hb dX11_forecast_17 (lv_at hl 5 rfl) ?_
  refine lv_iload hx hb dX11_forecast_19 (lv_at hl 6 rfl) ?_
  refine q_runP (va_runS (As := [.int a4, .int a5]) (rest := []) ⟨hx, hb, hml, hown, hts⟩ (c_arePulls l a4 a5) (cwS 2 hts (gTS kw239 kw240 kw241 kw3) rfl rfl rfl hd13 ⟨(Nat.le_of_ble_eq_true rfl), (Nat.le_of_ble_eq_true rfl)⟩) preEq rfl rfl hl.1 rfl (lv_room (Nat.le_of_ble_eq_true rfl)) dX11_forecast_21 ⟨(Nat.le_of_ble_eq_true rfl), (Nat.le_of_ble_eq_true rfl)⟩) ?_
  refine lv_if_eq (tgt := 31) hx hb dX11_forecast_24 (by decide) (fun c9 => absurd v2 (bz_n c9)) (fun _ => ?_)
  refine lv_iconst (v := 1) hx hb dX11_forecast_27 (by decide) ?_
  refine lv_goto (tgt := 32) hx hb dX11_forecast_28 (by decide) ?_
  refine q_runPv (va_runS (As := [.int 1]) (rest := []) ⟨hx, hb, hml, hown, hts⟩ (c_require_1 l) (cwS 1 hts (gTS kw242 kw243 kw244 kw3) rfl rfl rfl hd14 ⟨(Nat.le_of_ble_eq_true rfl), (Nat.le_of_ble_eq_true rfl)⟩) preEq rfl rfl hl.1 rfl (lv_room (Nat.le_of_ble_eq_true rfl)) dX11_forecast_32 ⟨(Nat.le_of_ble_eq_true rfl), (Nat.le_of_ble_eq_true rfl)⟩) ?_
  refine lv_aload_n hx hb dX11_forecast_35 rfl (lv_at hl 0 rfl) ?_
  refine va_get (D := D) (ci := 11) (v := .ref h1) (C := RX11) (T := TX11) (N := 15) hx hb hts iX11 hown hK hP 0 rfl rfl 1 (by decide) (hts _ kw34) (fun _ h9 => h9) rfl dX11_forecast_36 ?_
  refine va_new (ci := 2) (fs := [.int 0, .int 0, .int 0, .int 0, .int 0]) (C := RX2) (T := TX2) (N := 5) hx hb hts iX2 tyX2 tyX2_ok hown (hts _ kw263) (hts _ kw264) (hts _ kw265) hK hP hD hS hA rfl fsX2 (Nat.le_of_ble_eq_true rfl) (Nat.le_of_ble_eq_true rfl) dX11_forecast_39 (fun q1 H hP hD hS => ?_)
  have hP : va_P D vwCl [(h0, .inr (11, [.int 0, .ref h1, .ref h3, .ref h4, .int 0, .ref h5, .int 0, .ref h6, .ref h7, .ref h8, .ref h9, .int 0, .ref h10, .int (-1), .ref h11])), (h1, .inr (8, [.ref h12, .ref h13, .ref h14, .ref h2, .int 0, .int 0])), (h2, .inl (k0, 100, .inr (.inr (.inr (.inr (fun _ => none)))))), (q1, .inr (2, [.int 0, .int 0, .int 0, .int 0, .int 0]))] H := hP
  have hD : va_D A [(h0, .inr (11, [.int 0, .ref h1, .ref h3, .ref h4, .int 0, .ref h5, .int 0, .ref h6, .ref h7, .ref h8, .ref h9, .int 0, .ref h10, .int (-1), .ref h11])), (h1, .inr (8, [.ref h12, .ref h13, .ref h14, .ref h2, .int 0, .int 0])), (h2, .inl (k0, 100, .inr (.inr (.inr (.inr (fun _ => none)))))), (q1, .inr (2, [.int 0, .int 0, .int 0, .int 0, .int 0]))] := hD
  refine W.cs (cells' := 1) (slots' := 5) rfl rfl ?_
  refine lv_dup hx hb dX11_forecast_42 rfl ?_
  refine lv_aload_n hx hb dX11_forecast_43 rfl (lv_at hl 0 rfl) ?_
  refine va_get (D := D) (ci := 11) (v := .int 0) (C := RX11) (T := TX11) (N := 15) hx hb hts iX11 hown hK hP 0 rfl rfl 0 (by decide) (hts _ kw17) (fun _ h9 => h9) rfl dX11_forecast_44 ?_
  refine lv_iload_n hx hb dX11_forecast_47 rfl (lv_at hl 1 rfl) ?_
  refine lv_iload_n hx hb dX11_forecast_48 rfl (lv_at hl 2 rfl) ?_
  refine q_runP (va_runS (As := [.int a0, .int a1]) (rest := [.int 0, .ref q1, .ref q1, .ref h1]) ⟨hx, hb, hml, hown, hts⟩ (c_slotOf l a0 a1) (cwS 2 hts (gTS kw245 kw246 kw247 kw3) rfl rfl rfl hd15 ⟨(Nat.le_of_ble_eq_true rfl), (Nat.le_of_ble_eq_true rfl)⟩) preEq rfl rfl hl.1 rfl (lv_room (Nat.le_of_ble_eq_true rfl)) dX11_forecast_49 ⟨(Nat.le_of_ble_eq_true rfl), (Nat.le_of_ble_eq_true rfl)⟩) ?_
  refine lv_iload_n hx hb dX11_forecast_52 rfl (lv_at hl 3 rfl) ?_
  refine lv_iload hx hb dX11_forecast_53 (lv_at hl 4 rfl) ?_
  refine lv_iload hx hb dX11_forecast_55 (lv_at hl 5 rfl) ?_
  refine lv_iload hx hb dX11_forecast_57 (lv_at hl 6 rfl) ?_
  refine q_runP (va_runS (As := [.int a4, .int a5]) (rest := [.int a3, .int a2, .int (((a0 - 1) * 4) + a1), .int 0, .ref q1, .ref q1, .ref h1]) ⟨hx, hb, hml, hown, hts⟩ (c_windOf l a4 a5) (cwS 2 hts (gTS kw248 kw249 kw250 kw3) rfl rfl rfl hd16 ⟨(Nat.le_of_ble_eq_true rfl), (Nat.le_of_ble_eq_true rfl)⟩) preEq rfl rfl hl.1 rfl (lv_room (Nat.le_of_ble_eq_true rfl)) dX11_forecast_59 ⟨(Nat.le_of_ble_eq_true rfl), (Nat.le_of_ble_eq_true rfl)⟩) ?_
  refine q_run (D := D) (w1 := w_X2_init_1 q1 (((a0 - 1) * 4) + a1) a2 a3 (((10 * (a4 + 3)) + a5) + 3)) (t1 := t_X2_init_1) (o := none) (ws := [(h0, .inr (11, [.int 0, .ref h1, .ref h3, .ref h4, .int 0, .ref h5, .int 0, .ref h6, .ref h7, .ref h8, .ref h9, .int 0, .ref h10, .int (-1), .ref h11])), (h1, .inr (8, [.ref h12, .ref h13, .ref h14, .ref h2, .int 0, .int 0])), (h2, .inl (k0, 100, .inr (.inr (.inr (.inr (fun _ => none)))))), (q1, .inr (2, [.int 0, .int 0, .int 0, .int 0, .int 0]))]) (wc := [(q1, .inr (2, [.int 0, .int 0, .int 0, .int 0, .int 0]))]) (wr := [(h0, .inr (11, [.int 0, .ref h1, .ref h3, .ref h4, .int 0, .ref h5, .int 0, .ref h6, .ref h7, .ref h8, .ref h9, .int 0, .ref h10, .int (-1), .ref h11])), (h1, .inr (8, [.ref h12, .ref h13, .ref h14, .ref h2, .int 0, .int 0])), (h2, .inl (k0, 100, .inr (.inr (.inr (.inr (fun _ => none))))))]) (va_runI (b := q1) (As := [.int 0, .int (((a0 - 1) * 4) + a1), .int a2, .int a3, .int (((10 * (a4 + 3)) + a5) + 3)]) (rest := [.ref q1, .ref h1]) ⟨hx, hb, hml, hown, hts⟩ (c_X2_init_1 l D q1 (((a0 - 1) * 4) + a1) a2 a3 (((10 * (a4 + 3)) + a5) + 3) H.size) (cwI 5 hts (gT kw272) rfl rfl rfl (hts _ kw265) (hts _ kw273) (hts _ kw274) rfl hd21 ⟨(Nat.le_of_ble_eq_true rfl), (Nat.le_of_ble_eq_true rfl)⟩) (SP.pre hP hK hD hE [3] [] rfl rfl rfl) rfl rfl hl.1 rfl (lv_room (Nat.le_of_ble_eq_true rfl)) dX11_forecast_62 ⟨(Nat.le_of_ble_eq_true rfl), (Nat.le_of_ble_eq_true rfl)⟩) hP hK hD hS hA [3] [0, 1, 2] rfl rfl rfl (by decide) (fun u H locs hP hK hD hS => ?_)
  refine W.eq (g2 := F0 m 65 ls [.ref q1, .ref h1]) rfl ?_
  refine W.cs (cells' := 1) (slots' := 5) rfl rfl ?_
  have hP : va_P D vwCl [(h0, .inr (11, [.int 0, .ref h1, .ref h3, .ref h4, .int 0, .ref h5, .int 0, .ref h6, .ref h7, .ref h8, .ref h9, .int 0, .ref h10, .int (-1), .ref h11])), (h1, .inr (8, [.ref h12, .ref h13, .ref h14, .ref h2, .int 0, .int 0])), (h2, .inl (k0, 100, .inr (.inr (.inr (.inr (fun _ => none)))))), (q1, .inr (2, [.int 0, .int (((a0 - 1) * 4) + a1), .int a2, .int (a2 + a3), .int (((10 * (a4 + 3)) + a5) + 3)]))] H := hP
  have hD : va_D A [(h0, .inr (11, [.int 0, .ref h1, .ref h3, .ref h4, .int 0, .ref h5, .int 0, .ref h6, .ref h7, .ref h8, .ref h9, .int 0, .ref h10, .int (-1), .ref h11])), (h1, .inr (8, [.ref h12, .ref h13, .ref h14, .ref h2, .int 0, .int 0])), (h2, .inl (k0, 100, .inr (.inr (.inr (.inr (fun _ => none)))))), (q1, .inr (2, [.int 0, .int (((a0 - 1) * 4) + a1), .int a2, .int (a2 + a3), .int (((10 * (a4 + 3)) + a5) + 3)]))] := hD
  have hK : va_K D vwCl [(k0, .object "BalloonHouse$Forecast")] s := hK
  refine q_run (D := D) (w1 := w_X8_tell_1 h1 q1 h2 h12 h13 h14 k0 (((a0 - 1) * 4) + a1) a2 (a2 + a3) (((10 * (a4 + 3)) + a5) + 3)) (t1 := t_X8_tell_1) (o := (some (.int 1))) (ws := [(h0, .inr (11, [.int 0, .ref h1, .ref h3, .ref h4, .int 0, .ref h5, .int 0, .ref h6, .ref h7, .ref h8, .ref h9, .int 0, .ref h10, .int (-1), .ref h11])), (h1, .inr (8, [.ref h12, .ref h13, .ref h14, .ref h2, .int 0, .int 0])), (h2, .inl (k0, 100, .inr (.inr (.inr (.inr (fun _ => none)))))), (q1, .inr (2, [.int 0, .int (((a0 - 1) * 4) + a1), .int a2, .int (a2 + a3), .int (((10 * (a4 + 3)) + a5) + 3)]))]) (wc := [(h1, .inr (8, [.ref h12, .ref h13, .ref h14, .ref h2, .int 0, .int 0])), (q1, .inr (2, [.int 0, .int (((a0 - 1) * 4) + a1), .int a2, .int (a2 + a3), .int (((10 * (a4 + 3)) + a5) + 3)])), (h2, .inl (k0, 100, .inr (.inr (.inr (.inr (fun _ => none))))))]) (wr := [(h0, .inr (11, [.int 0, .ref h1, .ref h3, .ref h4, .int 0, .ref h5, .int 0, .ref h6, .ref h7, .ref h8, .ref h9, .int 0, .ref h10, .int (-1), .ref h11]))]) (va_runV (C := RX8) (b := h1) (As := [.ref q1]) (rest := []) ⟨hx, hb, hml, hown, hts⟩ (c_X8_tell_1 l D h1 q1 h2 h12 h13 h14 k0 (((a0 - 1) * 4) + a1) a2 (a2 + a3) (((10 * (a4 + 3)) + a5) + 3) H.size) (cwV 1 hts (gTV kw275 kw276 kw277 kw278 kw20) rfl rfl rfl hd22 ⟨(Nat.le_of_ble_eq_true rfl), (Nat.le_of_ble_eq_true rfl)⟩) ⟨SP.blind, q_recv (ws := [(h0, .inr (11, [.int 0, .ref h1, .ref h3, .ref h4, .int 0, .ref h5, .int 0, .ref h6, .ref h7, .ref h8, .ref h9, .int 0, .ref h10, .int (-1), .ref h11])), (h1, .inr (8, [.ref h12, .ref h13, .ref h14, .ref h2, .int 0, .int 0])), (h2, .inl (k0, 100, .inr (.inr (.inr (.inr (fun _ => none)))))), (q1, .inr (2, [.int 0, .int (((a0 - 1) * 4) + a1), .int a2, .int (a2 + a3), .int (((10 * (a4 + 3)) + a5) + 3)]))]) (wc := []) (r := (RX8, TX8, 6)) (ci := 8) (i := 1) hP hK rfl rfl, (SP.pre hP hK hD hE [1, 3, 2] [0] rfl rfl rfl).2⟩ rfl rfl hl.1 rfl (lv_room (Nat.le_of_ble_eq_true rfl)) dX11_forecast_65 ⟨(Nat.le_of_ble_eq_true rfl), (Nat.le_of_ble_eq_true rfl)⟩) hP hK hD hS hA [1, 3, 2] [0] rfl rfl rfl (by decide) (fun u H locs hP hK hD hS => ?_)
  refine W.eq (g2 := F0 m 68 ls [.int 1]) rfl ?_
  refine W.cs (cells' := 1) (slots' := 5) rfl rfl ?_
  have hP : va_P D vwCl [(h0, .inr (11, [.int 0, .ref h1, .ref h3, .ref h4, .int 0, .ref h5, .int 0, .ref h6, .ref h7, .ref h8, .ref h9, .int 0, .ref h10, .int (-1), .ref h11])), (h1, .inr (8, [.ref h12, .ref h13, .ref h14, .ref h2, .int 1, .int 0])), (q1, .inr (2, [.int 0, .int (((a0 - 1) * 4) + a1), .int a2, .int (a2 + a3), .int (((10 * (a4 + 3)) + a5) + 3)])), (h2, .inl (k0, 100, .inr (.inr (.inr (.inr (va_up (fun _ => none) 0 (some q1)))))))] H := hP
  have hD : va_D A [(h0, .inr (11, [.int 0, .ref h1, .ref h3, .ref h4, .int 0, .ref h5, .int 0, .ref h6, .ref h7, .ref h8, .ref h9, .int 0, .ref h10, .int (-1), .ref h11])), (h1, .inr (8, [.ref h12, .ref h13, .ref h14, .ref h2, .int 1, .int 0])), (q1, .inr (2, [.int 0, .int (((a0 - 1) * 4) + a1), .int a2, .int (a2 + a3), .int (((10 * (a4 + 3)) + a5) + 3)])), (h2, .inl (k0, 100, .inr (.inr (.inr (.inr (va_up (fun _ => none) 0 (some q1)))))))] := hD
  have hK : va_K D vwCl [(k0, .object "BalloonHouse$Forecast")] s := hK
  exact q_iret q1 hx hb hr hlocks hP hK hD hS [0, 1, 3, 2] [] rfl rfl rfl dX11_forecast_68 (Nat.le_of_ble_eq_true rfl) (Nat.le_of_ble_eq_true rfl)
set_option maxHeartbeats 4000000 in
set_option maxRecDepth 100000 in
theorem c_X11_forecast_2 (l : Launch) (hst : l.stackTraces = false) (D : va_G) (h0 : Nat) (a0 a1 a2 a3 a4 a5 : Int32) (sz : Nat) (v0 : ¬ vWind a0 a1 a2 a3 a4 a5) : vx_Met l yX11_forecast (.code yX11_forecast cX11_forecast 7 (some .int) :: wT) ({ frames := 7, cells := 1, slots := 6, locals := 103 } : Room) (SPx D [.ref h0, .int a0, .int a1, .int a2, .int a3, .int a4, .int a5] [] [] sz) QNo (XQ "java/lang/IllegalArgumentException" (va_A [] sz)) 1 6 (va_A [] sz) := by
  refine SPx.start (by decide) (Nat.le_of_ble_eq_true rfl) ?_
  intro p e s m below meth c ls A hx hb hr hml hown hts hlocks htab hA hP hK hD hE hZ hl hS
  have hown : s.vm.findClass RX11 = some m.cls := hown
  have hl : lv_has ls 7 [(0, .ref h0), (1, .int a0), (2, .int a1), (3, .int a2), (4, .int a3), (5, .int a4), (6, .int a5)] := hl
  refine lv_iload_n hx hb dX11_forecast_0 rfl (lv_at hl 1 rfl) ?_
  refine lv_iload_n hx hb dX11_forecast_1 rfl (lv_at hl 2 rfl) ?_
  refine q_runP (va_runS (As := [.int a0, .int a1]) (rest := []) ⟨hx, hb, hml, hown, hts⟩ (c_isAir l a0 a1) (cwS 2 hts (gTS kw233 kw234 kw235 kw3) rfl rfl rfl hd11 ⟨(Nat.le_of_ble_eq_true rfl), (Nat.le_of_ble_eq_true rfl)⟩) preEq rfl rfl hl.1 rfl (lv_room (Nat.le_of_ble_eq_true rfl)) dX11_forecast_2 ⟨(Nat.le_of_ble_eq_true rfl), (Nat.le_of_ble_eq_true rfl)⟩) ?_
  refine lv_if_eq (tgt := 31) hx hb dX11_forecast_5 (by decide) (fun c1 => ?_) (fun c1 => ?_)
  · have c1 := bz_n c1
    refine lv_iconst (v := 0) hx hb dX11_forecast_31 (by decide) ?_
    exact q_xout (B := va_A [] s.heap.size) (vx_runS (As := [.int 0]) (rest := []) ⟨hx, hb, hml, hown, hts⟩ (c_X11_require_1 l hst D s.heap.size) (cwS 1 hts (gTS kw242 kw243 kw244 kw3) rfl rfl rfl hd14 ⟨(Nat.le_of_ble_eq_true rfl), (Nat.le_of_ble_eq_true rfl)⟩) (SPx.pre hP hK hD hE hZ hS hA [] [] rfl rfl rfl) rfl rfl hl.1 rfl (lv_room (Nat.le_of_ble_eq_true rfl)) dX11_forecast_32 ⟨(Nat.le_of_ble_eq_true rfl), (Nat.le_of_ble_eq_true rfl)⟩) hS (va_free (wc := []) hD hS hA [] rfl) htab hlocks (Nat.le_of_ble_eq_true rfl) (Nat.le_of_ble_eq_true rfl)
  · have c1 := bz_p c1
    refine lv_iload_n hx hb dX11_forecast_8 rfl (lv_at hl 3 rfl) ?_
    refine lv_iload hx hb dX11_forecast_9 (lv_at hl 4 rfl) ?_
    refine q_runP (va_runS (As := [.int a2, .int a3]) (rest := []) ⟨hx, hb, hml, hown, hts⟩ (c_areHours l a2 a3) (cwS 2 hts (gTS kw236 kw237 kw238 kw3) rfl rfl rfl hd12 ⟨(Nat.le_of_ble_eq_true rfl), (Nat.le_of_ble_eq_true rfl)⟩) preEq rfl rfl hl.1 rfl (lv_room (Nat.le_of_ble_eq_true rfl)) dX11_forecast_11 ⟨(Nat.le_of_ble_eq_true rfl), (Nat.le_of_ble_eq_true rfl)⟩) ?_
    refine lv_if_eq (tgt := 31) hx hb dX11_forecast_14 (by decide) (fun c2 => ?_) (fun c2 => ?_)
    · have c2 := bz_n c2
      refine lv_iconst (v := 0) hx hb dX11_forecast_31 (by decide) ?_
      exact q_xout (B := va_A [] s.heap.size) (vx_runS (As := [.int 0]) (rest := []) ⟨hx, hb, hml, hown, hts⟩ (c_X11_require_1 l hst D s.heap.size) (cwS 1 hts (gTS kw242 kw243 kw244 kw3) rfl rfl rfl hd14 ⟨(Nat.le_of_ble_eq_true rfl), (Nat.le_of_ble_eq_true rfl)⟩) (SPx.pre hP hK hD hE hZ hS hA [] [] rfl rfl rfl) rfl rfl hl.1 rfl (lv_room (Nat.le_of_ble_eq_true rfl)) dX11_forecast_32 ⟨(Nat.le_of_ble_eq_true rfl), (Nat.le_of_ble_eq_true rfl)⟩) hS (va_free (wc := []) hD hS hA [] rfl) htab hlocks (Nat.le_of_ble_eq_true rfl) (Nat.le_of_ble_eq_true rfl)
    · have c2 := bz_p c2
      refine lv_iload hx hb dX11_forecast_17 (lv_at hl 5 rfl) ?_
      refine lv_iload hx hb dX11_forecast_19 (lv_at hl 6 rfl) ?_
      refine q_runP (va_runS (As := [.int a4, .int a5]) (rest := []) ⟨hx, hb, hml, hown, hts⟩ (c_arePulls l a4 a5) (cwS 2 hts (gTS kw239 kw240 kw241 kw3) rfl rfl rfl hd13 ⟨(Nat.le_of_ble_eq_true rfl), (Nat.le_of_ble_eq_true rfl)⟩) preEq rfl rfl hl.1 rfl (lv_room (Nat.le_of_ble_eq_true rfl)) dX11_forecast_21 ⟨(Nat.le_of_ble_eq_true rfl), (Nat.le_of_ble_eq_true rfl)⟩) ?_
      refine lv_if_eq (tgt := 31) hx hb dX11_forecast_24 (by decide) (fun c3 => ?_) (fun c3 => ?_)
      · have c3 := bz_n c3
        refine lv_iconst (v := 0) hx hb dX11_forecast_31 (by decide) ?_
        exact q_xout (B := va_A [] s.heap.size) (vx_runS (As := [.int 0]) (rest := []) ⟨hx, hb, hml, hown, hts⟩ (c_X11_require_1 l hst D s.heap.size) (cwS 1 hts (gTS kw242 kw243 kw244 kw3) rfl rfl rfl hd14 ⟨(Nat.le_of_ble_eq_true rfl), (Nat.le_of_ble_eq_true rfl)⟩) (SPx.pre hP hK hD hE hZ hS hA [] [] rfl rfl rfl) rfl rfl hl.1 rfl (lv_room (Nat.le_of_ble_eq_true rfl)) dX11_forecast_32 ⟨(Nat.le_of_ble_eq_true rfl), (Nat.le_of_ble_eq_true rfl)⟩) hS (va_free (wc := []) hD hS hA [] rfl) htab hlocks (Nat.le_of_ble_eq_true rfl) (Nat.le_of_ble_eq_true rfl)
      · have c3 := bz_p c3
        exact absurd (show vWind a0 a1 a2 a3 a4 a5 from ⟨c1, c2, c3⟩) v0
abbrev w_X8_toldWind_1 (h0 h1 h2 h3 h4 : Nat) (a0 a1 a2 : Int32) (_ : Unit) : va_W := [(h0, .inr (8, [.ref h1, .ref h2, .ref h3, .ref h4, .int 0, .int 0]))]
abbrev t_X8_toldWind_1 (_ : Unit) : List (ClassId × FieldType) := []
abbrev Q_X8_toldWind_1 (D : va_G) (h0 h1 h2 h3 h4 : Nat) (a0 a1 a2 : Int32) (A : Nat → Prop) : Array Value → State → Outcome → State → Prop := QW (.returned (some (.int 33))) D (w_X8_toldWind_1 h0 h1 h2 h3 h4 a0 a1 a2) t_X8_toldWind_1 A
set_option maxHeartbeats 4000000 in
set_option maxRecDepth 100000 in
theorem c_X8_toldWind_1 (l : Launch) (D : va_G) (h0 h1 h2 h3 h4 : Nat) (a0 a1 a2 : Int32) (sz : Nat) : Met l yX8_toldWind (.code yX8_toldWind cX8_toldWind 6 (some .int) :: wT) ({ frames := 0, cells := 0, slots := 0, locals := 0 } : Room) (SP D [.ref h0, .int a0, .int a1, .int a2] [(h0, .inr (8, [.ref h1, .ref h2, .ref h3, .ref h4, .int 0, .int 0]))] [] sz) (Q_X8_toldWind_1 D h0 h1 h2 h3 h4 a0 a1 a2 (va_A [(h0, .inr (8, [.ref h1, .ref h2, .ref h3, .ref h4, .int 0, .int 0]))] sz)) 0 0 (va_A [(h0, .inr (8, [.ref h1, .ref h2, .ref h3, .ref h4, .int 0, .int 0]))] sz) := by
  refine SP.start (Qf := Q_X8_toldWind_1 D h0 h1 h2 h3 h4 a0 a1 a2) (by decide) (Nat.le_of_ble_eq_true rfl) ?_
  intro p e s m below meth c ls A hx hb hr hml hown hts hlocks hname hA hP hK hD hE hl hS
  have hown : s.vm.findClass RX8 = some m.cls := hown
  have hl : lv_has ls 6 [(0, .ref h0), (1, .int a0), (2, .int a1), (3, .int a2)] := hl
  refine lv_aload_n hx hb dX8_toldWind_0 rfl (lv_at hl 0 rfl) ?_
  refine va_get (D := D) (ci := 8) (v := .int 0) (C := RX8) (T := TX8) (N := 6) hx hb hts iX8 hown hK hP 0 rfl rfl 4 (by decide) (hts _ kw29) (fun _ h9 => h9) rfl dX8_toldWind_1 ?_
  refine lv_iconst (v := 1) hx hb dX8_toldWind_4 (by decide) ?_
  refine lv_isub hx hb dX8_toldWind_5 ?_
  refine lv_lit (v := (-1)) (by decide +kernel) ?_
  refine lv_istore (lv' := [(4, .int (-1)), (0, .ref h0), (1, .int a0), (2, .int a1), (3, .int a2)]) hx hb dX8_toldWind_6 hl (by decide) rfl (fun ls hl => ?_)
  refine lv_iload hx hb dX8_toldWind_8 (lv_at hl 0 rfl) ?_
  refine lv_if_lt (tgt := 70) hx hb dX8_toldWind_10 (by decide) (fun _ => ?_) (fun c9 => absurd (by decide +kernel) c9)
  refine lv_bipush (v := 33) hx hb dX8_toldWind_70 (by decide) ?_
  exact q_iret () hx hb hr hlocks hP hK hD hS [0] [] rfl rfl rfl dX8_toldWind_72 (Nat.le_of_ble_eq_true rfl) (Nat.le_of_ble_eq_true rfl)
abbrev w_X11_told_1 (h0 h1 h2 h3 h4 h5 h6 h7 h8 h9 h10 h11 h12 h13 h14 : Nat) (a0 a1 a2 a3 : Int32) (_ : Unit) : va_W := [(h0, .inr (11, [.int 0, .ref h1, .ref h2, .ref h3, .int 0, .ref h4, .int 0, .ref h5, .ref h6, .ref h7, .ref h8, .int 0, .ref h9, .int (-1), .ref h10])), (h1, .inr (8, [.ref h11, .ref h12, .ref h13, .ref h14, .int 0, .int 0]))]
abbrev t_X11_told_1 (_ : Unit) : List (ClassId × FieldType) := []
abbrev Q_X11_told_1 (D : va_G) (h0 h1 h2 h3 h4 h5 h6 h7 h8 h9 h10 h11 h12 h13 h14 : Nat) (a0 a1 a2 a3 : Int32) (A : Nat → Prop) : Array Value → State → Outcome → State → Prop := QW (.returned (some (.int 33))) D (w_X11_told_1 h0 h1 h2 h3 h4 h5 h6 h7 h8 h9 h10 h11 h12 h13 h14 a0 a1 a2 a3) t_X11_told_1 A
set_option maxHeartbeats 4000000 in
set_option maxRecDepth 100000 in
theorem c_X11_told_1 (l : Launch) (D : va_G) (h0 h1 h2 h3 h4 h5 h6 h7 h8 h9 h10 h11 h12 h13 h14 : Nat) (a0 a1 a2 a3 : Int32) (sz : Nat) (v0 : pAir a0 a1) (v1 : pHour a2) : Met l yX11_told (.code yX11_told cX11_told 5 (some .int) :: wT) ({ frames := 2, cells := 0, slots := 0, locals := 43 } : Room) (SP D [.ref h0, .int a0, .int a1, .int a2, .int a3] [(h0, .inr (11, [.int 0, .ref h1, .ref h2, .ref h3, .int 0, .ref h4, .int 0, .ref h5, .ref h6, .ref h7, .ref h8, .int 0, .ref h9, .int (-1), .ref h10])), (h1, .inr (8, [.ref h11, .ref h12, .ref h13, .ref h14, .int 0, .int 0]))] [] sz) (Q_X11_told_1 D h0 h1 h2 h3 h4 h5 h6 h7 h8 h9 h10 h11 h12 h13 h14 a0 a1 a2 a3 (va_A [(h0, .inr (11, [.int 0, .ref h1, .ref h2, .ref h3, .int 0, .ref h4, .int 0, .ref h5, .ref h6, .ref h7, .ref h8, .int 0, .ref h9, .int (-1), .ref h10])), (h1, .inr (8, [.ref h11, .ref h12, .ref h13, .ref h14, .int 0, .int 0]))] sz)) 0 0 (va_A [(h0, .inr (11, [.int 0, .ref h1, .ref h2, .ref h3, .int 0, .ref h4, .int 0, .ref h5, .ref h6, .ref h7, .ref h8, .int 0, .ref h9, .int (-1), .ref h10])), (h1, .inr (8, [.ref h11, .ref h12, .ref h13, .ref h14, .int 0, .int 0]))] sz) := by
  refine SP.start (Qf := Q_X11_told_1 D h0 h1 h2 h3 h4 h5 h6 h7 h8 h9 h10 h11 h12 h13 h14 a0 a1 a2 a3) (by decide) (Nat.le_of_ble_eq_true rfl) ?_
  intro p e s m below meth c ls A hx hb hr hml hown hts hlocks hname hA hP hK hD hE hl hS
  have hown : s.vm.findClass RX11 = some m.cls := hown
  have hl : lv_has ls 5 [(0, .ref h0), (1, .int a0), (2, .int a1), (3, .int a2), (4, .int a3)] := hl
  refine lv_iload_n hx hb dX11_told_0 rfl (lv_at hl 1 rfl) ?_
  refine lv_iload_n hx hb dX11_told_1 rfl (lv_at hl 2 rfl) ?_
  refine q_runP (va_runS (As := [.int a0, .int a1]) (rest := []) ⟨hx, hb, hml, hown, hts⟩ (c_isAir l a0 a1) (cwS 2 hts (gTS kw233 kw234 kw235 kw3) rfl rfl rfl hd11 ⟨(Nat.le_of_ble_eq_true rfl), (Nat.le_of_ble_eq_true rfl)⟩) preEq rfl rfl hl.1 rfl (lv_room (Nat.le_of_ble_eq_true rfl)) dX11_told_2 ⟨(Nat.le_of_ble_eq_true rfl), (Nat.le_of_ble_eq_true rfl)⟩) ?_
  refine lv_if_eq (tgt := 19) hx hb dX11_told_5 (by decide) (fun c9 => absurd v0 (bz_n c9)) (fun _ => ?_)
  refine lv_iload_n hx hb dX11_told_8 rfl (lv_at hl 3 rfl) ?_
  refine q_runP (va_runS (As := [.int a2]) (rest := []) ⟨hx, hb, hml, hown, hts⟩ (c_isHour l a2) (cwS 1 hts (gTS kw0 kw1 kw2 kw3) rfl rfl rfl hd0 ⟨(Nat.le_of_ble_eq_true rfl), (Nat.le_of_ble_eq_true rfl)⟩) preEq rfl rfl hl.1 rfl (lv_room (Nat.le_of_ble_eq_true rfl)) dX11_told_9 ⟨(Nat.le_of_ble_eq_true rfl), (Nat.le_of_ble_eq_true rfl)⟩) ?_
  refine lv_if_eq (tgt := 19) hx hb dX11_told_12 (by decide) (fun c9 => absurd v1 (bz_n c9)) (fun _ => ?_)
  refine lv_iconst (v := 1) hx hb dX11_told_15 (by decide) ?_
  refine lv_goto (tgt := 20) hx hb dX11_told_16 (by decide) ?_
  refine q_runPv (va_runS (As := [.int 1]) (rest := []) ⟨hx, hb, hml, hown, hts⟩ (c_require_1 l) (cwS 1 hts (gTS kw242 kw243 kw244 kw3) rfl rfl rfl hd14 ⟨(Nat.le_of_ble_eq_true rfl), (Nat.le_of_ble_eq_true rfl)⟩) preEq rfl rfl hl.1 rfl (lv_room (Nat.le_of_ble_eq_true rfl)) dX11_told_20 ⟨(Nat.le_of_ble_eq_true rfl), (Nat.le_of_ble_eq_true rfl)⟩) ?_
  refine lv_aload_n hx hb dX11_told_23 rfl (lv_at hl 0 rfl) ?_
  refine va_get (D := D) (ci := 11) (v := .ref h1) (C := RX11) (T := TX11) (N := 15) hx hb hts iX11 hown hK hP 0 rfl rfl 1 (by decide) (hts _ kw34) (fun _ h9 => h9) rfl dX11_told_24 ?_
  refine lv_iload_n hx hb dX11_told_27 rfl (lv_at hl 1 rfl) ?_
  refine lv_iload_n hx hb dX11_told_28 rfl (lv_at hl 2 rfl) ?_
  refine q_runP (va_runS (As := [.int a0, .int a1]) (rest := [.ref h1]) ⟨hx, hb, hml, hown, hts⟩ (c_slotOf l a0 a1) (cwS 2 hts (gTS kw245 kw246 kw247 kw3) rfl rfl rfl hd15 ⟨(Nat.le_of_ble_eq_true rfl), (Nat.le_of_ble_eq_true rfl)⟩) preEq rfl rfl hl.1 rfl (lv_room (Nat.le_of_ble_eq_true rfl)) dX11_told_29 ⟨(Nat.le_of_ble_eq_true rfl), (Nat.le_of_ble_eq_true rfl)⟩) ?_
  refine lv_iload_n hx hb dX11_told_32 rfl (lv_at hl 3 rfl) ?_
  refine lv_iload hx hb dX11_told_33 (lv_at hl 4 rfl) ?_
  refine q_run (D := D) (w1 := w_X8_toldWind_1 h1 h11 h12 h13 h14 (((a0 - 1) * 4) + a1) a2 a3) (t1 := t_X8_toldWind_1) (o := (some (.int 33))) (ws := [(h0, .inr (11, [.int 0, .ref h1, .ref h2, .ref h3, .int 0, .ref h4, .int 0, .ref h5, .ref h6, .ref h7, .ref h8, .int 0, .ref h9, .int (-1), .ref h10])), (h1, .inr (8, [.ref h11, .ref h12, .ref h13, .ref h14, .int 0, .int 0]))]) (wc := [(h1, .inr (8, [.ref h11, .ref h12, .ref h13, .ref h14, .int 0, .int 0]))]) (wr := [(h0, .inr (11, [.int 0, .ref h1, .ref h2, .ref h3, .int 0, .ref h4, .int 0, .ref h5, .ref h6, .ref h7, .ref h8, .int 0, .ref h9, .int (-1), .ref h10]))]) (va_runV (C := RX8) (b := h1) (As := [.int (((a0 - 1) * 4) + a1), .int a2, .int a3]) (rest := []) ⟨hx, hb, hml, hown, hts⟩ (c_X8_toldWind_1 l D h1 h11 h12 h13 h14 (((a0 - 1) * 4) + a1) a2 a3 s.heap.size) (cwV 3 hts (gTV kw279 kw280 kw281 kw282 kw20) rfl rfl rfl hd23 ⟨(Nat.le_of_ble_eq_true rfl), (Nat.le_of_ble_eq_true rfl)⟩) ⟨SP.blind, q_recv (ws := [(h0, .inr (11, [.int 0, .ref h1, .ref h2, .ref h3, .int 0, .ref h4, .int 0, .ref h5, .ref h6, .ref h7, .ref h8, .int 0, .ref h9, .int (-1), .ref h10])), (h1, .inr (8, [.ref h11, .ref h12, .ref h13, .ref h14, .int 0, .int 0]))]) (wc := []) (r := (RX8, TX8, 6)) (ci := 8) (i := 1) hP hK rfl rfl, (SP.pre hP hK hD hE [1] [] rfl rfl rfl).2⟩ rfl rfl hl.1 rfl (lv_room (Nat.le_of_ble_eq_true rfl)) dX11_told_35 ⟨(Nat.le_of_ble_eq_true rfl), (Nat.le_of_ble_eq_true rfl)⟩) hP hK hD hS hA [1] [0] rfl rfl rfl (by decide) (fun u H locs hP hK hD hS => ?_)
  refine W.eq (g2 := F0 m 38 ls [.int 33]) rfl ?_
  refine W.cs (cells' := 0) (slots' := 0) rfl rfl ?_
  have hP : va_P D vwCl [(h0, .inr (11, [.int 0, .ref h1, .ref h2, .ref h3, .int 0, .ref h4, .int 0, .ref h5, .ref h6, .ref h7, .ref h8, .int 0, .ref h9, .int (-1), .ref h10])), (h1, .inr (8, [.ref h11, .ref h12, .ref h13, .ref h14, .int 0, .int 0]))] H := hP
  have hD : va_D A [(h0, .inr (11, [.int 0, .ref h1, .ref h2, .ref h3, .int 0, .ref h4, .int 0, .ref h5, .ref h6, .ref h7, .ref h8, .int 0, .ref h9, .int (-1), .ref h10])), (h1, .inr (8, [.ref h11, .ref h12, .ref h13, .ref h14, .int 0, .int 0]))] := hD
  have hK : va_K D vwCl [] s := hK
  exact q_iret () hx hb hr hlocks hP hK hD hS [0, 1] [] rfl rfl rfl dX11_told_38 (Nat.le_of_ble_eq_true rfl) (Nat.le_of_ble_eq_true rfl)
set_option maxHeartbeats 4000000 in
set_option maxRecDepth 100000 in
theorem c_X11_told_2 (l : Launch) (hst : l.stackTraces = false) (D : va_G) (h0 : Nat) (a0 a1 a2 a3 : Int32) (sz : Nat) (v0 : ¬ vTold a0 a1 a2) : vx_Met l yX11_told (.code yX11_told cX11_told 5 (some .int) :: wT) ({ frames := 7, cells := 1, slots := 6, locals := 103 } : Room) (SPx D [.ref h0, .int a0, .int a1, .int a2, .int a3] [] [] sz) QNo (XQ "java/lang/IllegalArgumentException" (va_A [] sz)) 1 6 (va_A [] sz) := by
  refine SPx.start (by decide) (Nat.le_of_ble_eq_true rfl) ?_
  intro p e s m below meth c ls A hx hb hr hml hown hts hlocks htab hA hP hK hD hE hZ hl hS
  have hown : s.vm.findClass RX11 = some m.cls := hown
  have hl : lv_has ls 5 [(0, .ref h0), (1, .int a0), (2, .int a1), (3, .int a2), (4, .int a3)] := hl
  refine lv_iload_n hx hb dX11_told_0 rfl (lv_at hl 1 rfl) ?_
  refine lv_iload_n hx hb dX11_told_1 rfl (lv_at hl 2 rfl) ?_
  refine q_runP (va_runS (As := [.int a0, .int a1]) (rest := []) ⟨hx, hb, hml, hown, hts⟩ (c_isAir l a0 a1) (cwS 2 hts (gTS kw233 kw234 kw235 kw3) rfl rfl rfl hd11 ⟨(Nat.le_of_ble_eq_true rfl), (Nat.le_of_ble_eq_true rfl)⟩) preEq rfl rfl hl.1 rfl (lv_room (Nat.le_of_ble_eq_true rfl)) dX11_told_2 ⟨(Nat.le_of_ble_eq_true rfl), (Nat.le_of_ble_eq_true rfl)⟩) ?_
  refine lv_if_eq (tgt := 19) hx hb dX11_told_5 (by decide) (fun c1 => ?_) (fun c1 => ?_)
  · have c1 := bz_n c1
    refine lv_iconst (v := 0) hx hb dX11_told_19 (by decide) ?_
    exact q_xout (B := va_A [] s.heap.size) (vx_runS (As := [.int 0]) (rest := []) ⟨hx, hb, hml, hown, hts⟩ (c_X11_require_1 l hst D s.heap.size) (cwS 1 hts (gTS kw242 kw243 kw244 kw3) rfl rfl rfl hd14 ⟨(Nat.le_of_ble_eq_true rfl), (Nat.le_of_ble_eq_true rfl)⟩) (SPx.pre hP hK hD hE hZ hS hA [] [] rfl rfl rfl) rfl rfl hl.1 rfl (lv_room (Nat.le_of_ble_eq_true rfl)) dX11_told_20 ⟨(Nat.le_of_ble_eq_true rfl), (Nat.le_of_ble_eq_true rfl)⟩) hS (va_free (wc := []) hD hS hA [] rfl) htab hlocks (Nat.le_of_ble_eq_true rfl) (Nat.le_of_ble_eq_true rfl)
  · have c1 := bz_p c1
    refine lv_iload_n hx hb dX11_told_8 rfl (lv_at hl 3 rfl) ?_
    refine q_runP (va_runS (As := [.int a2]) (rest := []) ⟨hx, hb, hml, hown, hts⟩ (c_isHour l a2) (cwS 1 hts (gTS kw0 kw1 kw2 kw3) rfl rfl rfl hd0 ⟨(Nat.le_of_ble_eq_true rfl), (Nat.le_of_ble_eq_true rfl)⟩) preEq rfl rfl hl.1 rfl (lv_room (Nat.le_of_ble_eq_true rfl)) dX11_told_9 ⟨(Nat.le_of_ble_eq_true rfl), (Nat.le_of_ble_eq_true rfl)⟩) ?_
    refine lv_if_eq (tgt := 19) hx hb dX11_told_12 (by decide) (fun c2 => ?_) (fun c2 => ?_)
    · have c2 := bz_n c2
      refine lv_iconst (v := 0) hx hb dX11_told_19 (by decide) ?_
      exact q_xout (B := va_A [] s.heap.size) (vx_runS (As := [.int 0]) (rest := []) ⟨hx, hb, hml, hown, hts⟩ (c_X11_require_1 l hst D s.heap.size) (cwS 1 hts (gTS kw242 kw243 kw244 kw3) rfl rfl rfl hd14 ⟨(Nat.le_of_ble_eq_true rfl), (Nat.le_of_ble_eq_true rfl)⟩) (SPx.pre hP hK hD hE hZ hS hA [] [] rfl rfl rfl) rfl rfl hl.1 rfl (lv_room (Nat.le_of_ble_eq_true rfl)) dX11_told_20 ⟨(Nat.le_of_ble_eq_true rfl), (Nat.le_of_ble_eq_true rfl)⟩) hS (va_free (wc := []) hD hS hA [] rfl) htab hlocks (Nat.le_of_ble_eq_true rfl) (Nat.le_of_ble_eq_true rfl)
    · have c2 := bz_p c2
      exact absurd (show vTold a0 a1 a2 from ⟨c1, c2⟩) v0
