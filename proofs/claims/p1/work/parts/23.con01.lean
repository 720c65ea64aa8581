abbrev w_X8_isFound_1 (h0 h1 h2 h3 h4 : Nat) (k0 : ClassId) (a0 a1 : Int32) (_ : Unit) : va_W := [(h0, .inr (8, [.ref h2, .ref h1, .ref h3, .ref h4, .int 0, .int 0])), (h1, .inl (k0, 1000, .inl (fun _ => 0)))]
abbrev t_X8_isFound_1 (_ : Unit) : List (ClassId × FieldType) := []
abbrev Q_X8_isFound_1 (D : va_G) (h0 h1 h2 h3 h4 : Nat) (k0 : ClassId) (a0 a1 : Int32) (A : Nat → Prop) : Array Value → State → Outcome → State → Prop := QW (.returned (some (.int 0))) D (w_X8_isFound_1 h0 h1 h2 h3 h4 k0 a0 a1) t_X8_isFound_1 A
set_option maxHeartbeats 4000000 in
set_option maxRecDepth 100000 in
theorem c_X8_isFound_1 (l : Launch) (D : va_G) (h0 h1 h2 h3 h4 : Nat) (k0 : ClassId) (a0 a1 : Int32) (sz : Nat) (v0 : pHour a1) : Met l yX8_isFound (.code yX8_isFound cX8_isFound 3 (some .boolean) :: wT) ({ frames := 1, cells := 0, slots := 0, locals := 20 } : Room) (SP D [.ref h0, .int a0, .int a1] [(h0, .inr (8, [.ref h2, .ref h1, .ref h3, .ref h4, .int 0, .int 0])), (h1, .inl (k0, 1000, .inl (fun _ => 0)))] [(k0, .int)] sz) (Q_X8_isFound_1 D h0 h1 h2 h3 h4 k0 a0 a1 (va_A [(h0, .inr (8, [.ref h2, .ref h1, .ref h3, .ref h4, .int 0, .int 0])), (h1, .inl (k0, 1000, .inl (fun _ => 0)))] sz)) 0 0 (va_A [(h0, .inr (8, [.ref h2, .ref h1, .ref h3, .ref h4, .int 0, .int 0])), (h1, .inl (k0, 1000, .inl (fun _ => 0)))] sz) := by
  refine SP.start (Qf := Q_X8_isFound_1 D h0 h1 h2 h3 h4 k0 a0 a1) (by decide) (Nat.le_of_ble_eq_true rfl) ?_
  intro p e s m below meth c ls A hx hb hr hml hown hts hlocks hname hA hP hK hD hE hl hS
  have hown : s.vm.findClass RX8 = some m.cls := hown
  have hl : lv_has ls 3 [(0, .ref h0), (1, .int a0), (2, .int a1)] := hl
  refine lv_iload_n hx hb dX8_isFound_0 rfl (lv_at hl 2 rfl) ?_
  refine q_runP (va_runSN (As := [.int a1]) (rest := []) ⟨hx, hb, hml, hown, hts⟩ (c_isHour l a1) ⟨va_cnB 1 hts (gT kw0) rfl rfl rfl (hE.1 _ nw251 rfl) (hts _ kw3) hd17 ⟨(Nat.le_of_ble_eq_true rfl), (Nat.le_of_ble_eq_true rfl)⟩, hts _ kw2, trivial⟩ preEq rfl rfl hl.1 rfl (lv_room (Nat.le_of_ble_eq_true rfl)) dX8_isFound_1 ⟨(Nat.le_of_ble_eq_true rfl), (Nat.le_of_ble_eq_true rfl)⟩) ?_
  refine lv_if_eq (tgt := 25) hx hb dX8_isFound_4 (by decide) (fun c9 => absurd v0 (bz_n c9)) (fun _ => ?_)
  refine lv_aload_n hx hb dX8_isFound_7 rfl (lv_at hl 0 rfl) ?_
  refine va_get (D := D) (ci := 8) (v := .ref h1) (C := RX8) (T := TX8) (N := 6) hx hb hts iX8 hown hK hP 0 rfl rfl 1 (by decide) (hts _ kw24) (fun _ h9 => h9) rfl dX8_isFound_8 ?_
  refine lv_iload_n hx hb dX8_isFound_11 rfl (lv_at hl 2 rfl) ?_
  refine va_iald hx hb hK hP 1 0 rfl rfl (hour_vin v0) dX8_isFound_12 ?_
  refine lv_lit (v := 0) rfl ?_
  refine lv_iload_n hx hb dX8_isFound_13 rfl (lv_at hl 1 rfl) ?_
  refine lv_ishr hx hb dX8_isFound_14 ?_
  refine lv_lit (v := 0) (zshr _) ?_
  refine lv_iconst (v := 1) hx hb dX8_isFound_15 (by decide) ?_
  refine lv_iand hx hb dX8_isFound_16 ?_
  refine lv_lit (v := 0) (by decide +kernel) ?_
  refine lv_iconst (v := 1) hx hb dX8_isFound_17 (by decide) ?_
  refine lv_icmp_ne (tgt := 25) hx hb dX8_isFound_18 (by decide) (fun _ => ?_) (fun c9 => absurd c9 (by decide +kernel))
  refine lv_iconst (v := 0) hx hb dX8_isFound_25 (by decide) ?_
  exact q_zret () hx hb hr hlocks rfl hP hK hD hS [0, 1] [] rfl rfl rfl dX8_isFound_26 (Nat.le_of_ble_eq_true rfl) (Nat.le_of_ble_eq_true rfl)
abbrev w_X11_found_1 (h0 h1 h2 h3 h4 h5 h6 h7 h8 h9 h10 h11 h12 h13 h14 : Nat) (k0 : ClassId) (a0 a1 a2 : Int32) (_ : Unit) : va_W := [(h0, .inr (11, [.int 0, .ref h1, .ref h3, .ref h4, .int 0, .ref h5, .int 0, .ref h6, .ref h7, .ref h8, .ref h9, .int 0, .ref h10, .int (-1), .ref h11])), (h1, .inr (8, [.ref h12, .ref h2, .ref h13, .ref h14, .int 0, .int 0])), (h2, .inl (k0, 1000, .inl (fun _ => 0)))]
abbrev t_X11_found_1 (_ : Unit) : List (ClassId × FieldType) := []
abbrev Q_X11_found_1 (D : va_G) (h0 h1 h2 h3 h4 h5 h6 h7 h8 h9 h10 h11 h12 h13 h14 : Nat) (k0 : ClassId) (a0 a1 a2 : Int32) (A : Nat → Prop) : Array Value → State → Outcome → State → Prop := QW (.returned (some (.int (-1)))) D (w_X11_found_1 h0 h1 h2 h3 h4 h5 h6 h7 h8 h9 h10 h11 h12 h13 h14 k0 a0 a1 a2) t_X11_found_1 A
set_option maxHeartbeats 4000000 in
set_option maxRecDepth 100000 in
theorem c_X11_found_1 (l : Launch) (D : va_G) (h0 h1 h2 h3 h4 h5 h6 h7 h8 h9 h10 h11 h12 h13 h14 : Nat) (k0 : ClassId) (a0 a1 a2 : Int32) (sz : Nat) (v0 : pAir a0 a1) (v1 : pHour a2) : Met l yX11_found (.code yX11_found cX11_found 5 (some .int) :: wT) ({ frames := 2, cells := 0, slots := 0, locals := 43 } : Room) (SP D [.ref h0, .int a0, .int a1, .int a2] [(h0, .inr (11, [.int 0, .ref h1, .ref h3, .ref h4, .int 0, .ref h5, .int 0, .ref h6, .ref h7, .ref h8, .ref h9, .int 0, .ref h10, .int (-1), .ref h11])), (h1, .inr (8, [.ref h12, .ref h2, .ref h13, .ref h14, .int 0, .int 0])), (h2, .inl (k0, 1000, .inl (fun _ => 0)))] [(k0, .int)] sz) (Q_X11_found_1 D h0 h1 h2 h3 h4 h5 h6 h7 h8 h9 h10 h11 h12 h13 h14 k0 a0 a1 a2 (va_A [(h0, .inr (11, [.int 0, .ref h1, .ref h3, .ref h4, .int 0, .ref h5, .int 0, .ref h6, .ref h7, .ref h8, .ref h9, .int 0, .ref h10, .int (-1), .ref h11])), (h1, .inr (8, [.ref h12, .ref h2, .ref h13, .ref h14, .int 0, .int 0])), (h2, .inl (k0, 1000, .inl (fun _ => 0)))] sz)) 0 0 (va_A [(h0, .inr (11, [.int 0, .ref h1, .ref h3, .ref h4, .int 0, .ref h5, .int 0, .ref h6, .ref h7, .ref h8, .ref h9, .int 0, .ref h10, .int (-1), .ref h11])), (h1, .inr (8, [.ref h12, .ref h2, .ref h13, .ref h14, .int 0, .int 0])), (h2, .inl (k0, 1000, .inl (fun _ => 0)))] sz) := by
  refine SP.start (Qf := Q_X11_found_1 D h0 h1 h2 h3 h4 h5 h6 h7 h8 h9 h10 h11 h12 h13 h14 k0 a0 a1 a2) (by decide) (Nat.le_of_ble_eq_true rfl) ?_
  intro p e s m below meth c ls A hx hb hr hml hown hts hlocks hname hA hP hK hD hE hl hS
  have hown : s.vm.findClass RX11 = some m.cls := hown
  have hl : lv_has ls 5 [(0, .ref h0), (1, .int a0), (2, .int a1), (3, .int a2)] := hl
  refine lv_iload_n hx hb dX11_found_0 rfl (lv_at hl 1 rfl) ?_
  refine lv_iload_n hx hb dX11_found_1 rfl (lv_at hl 2 rfl) ?_
  refine q_runP (va_runS (As := [.int a0, .int a1]) (rest := []) ⟨hx, hb, hml, hown, hts⟩ (c_isAir l a0 a1) (cwS 2 hts (gTS kw233 kw234 kw235 kw3) rfl rfl rfl hd11 ⟨(Nat.le_of_ble_eq_true rfl), (Nat.le_of_ble_eq_true rfl)⟩) preEq rfl rfl hl.1 rfl (lv_room (Nat.le_of_ble_eq_true rfl)) dX11_found_2 ⟨(Nat.le_of_ble_eq_true rfl), (Nat.le_of_ble_eq_true rfl)⟩) ?_
  refine lv_if_eq (tgt := 19) hx hb dX11_found_5 (by decide) (fun c9 => absurd v0 (bz_n c9)) (fun _ => ?_)
  refine lv_iload_n hx hb dX11_found_8 rfl (lv_at hl 3 rfl) ?_
  refine q_runP (va_runS (As := [.int a2]) (rest := []) ⟨hx, hb, hml, hown, hts⟩ (c_isHour l a2) (cwS 1 hts (gTS kw0 kw1 kw2 kw3) rfl rfl rfl hd0 ⟨(Nat.le_of_ble_eq_true rfl), (Nat.le_of_ble_eq_true rfl)⟩) preEq rfl rfl hl.1 rfl (lv_room (Nat.le_of_ble_eq_true rfl)) dX11_found_9 ⟨(Nat.le_of_ble_eq_true rfl), (Nat.le_of_ble_eq_true rfl)⟩) ?_
  refine lv_if_eq (tgt := 19) hx hb dX11_found_12 (by decide) (fun c9 => absurd v1 (bz_n c9)) (fun _ => ?_)
  refine lv_iconst (v := 1) hx hb dX11_found_15 (by decide) ?_
  refine lv_goto (tgt := 20) hx hb dX11_found_16 (by decide) ?_
  refine q_runPv (va_runS (As := [.int 1]) (rest := []) ⟨hx, hb, hml, hown, hts⟩ (c_require_1 l) (cwS 1 hts (gTS kw242 kw243 kw244 kw3) rfl rfl rfl hd14 ⟨(Nat.le_of_ble_eq_true rfl), (Nat.le_of_ble_eq_true rfl)⟩) preEq rfl rfl hl.1 rfl (lv_room (Nat.le_of_ble_eq_true rfl)) dX11_found_20 ⟨(Nat.le_of_ble_eq_true rfl), (Nat.le_of_ble_eq_true rfl)⟩) ?_
  refine lv_iload_n hx hb dX11_found_23 rfl (lv_at hl 1 rfl) ?_
  refine lv_iload_n hx hb dX11_found_24 rfl (lv_at hl 2 rfl) ?_
  refine q_runP (va_runS (As := [.int a0, .int a1]) (rest := []) ⟨hx, hb, hml, hown, hts⟩ (c_slotOf l a0 a1) (cwS 2 hts (gTS kw245 kw246 kw247 kw3) rfl rfl rfl hd15 ⟨(Nat.le_of_ble_eq_true rfl), (Nat.le_of_ble_eq_true rfl)⟩) preEq rfl rfl hl.1 rfl (lv_room (Nat.le_of_ble_eq_true rfl)) dX11_found_25 ⟨(Nat.le_of_ble_eq_true rfl), (Nat.le_of_ble_eq_true rfl)⟩) ?_
  refine lv_istore (lv' := [(4, .int (((a0 - 1) * 4) + a1)), (0, .ref h0), (1, .int a0), (2, .int a1), (3, .int a2)]) hx hb dX11_found_28 hl (by decide) rfl (fun ls hl => ?_)
  refine lv_aload_n hx hb dX11_found_30 rfl (lv_at hl 1 rfl) ?_
  refine va_get (D := D) (ci := 11) (v := .ref h1) (C := RX11) (T := TX11) (N := 15) hx hb hts iX11 hown hK hP 0 rfl rfl 1 (by decide) (hts _ kw34) (fun _ h9 => h9) rfl dX11_found_31 ?_
  refine lv_iload hx hb dX11_found_34 (lv_at hl 0 rfl) ?_
  refine lv_iload_n hx hb dX11_found_36 rfl (lv_at hl 4 rfl) ?_
  refine q_run (D := D) (w1 := w_X8_isFound_1 h1 h2 h12 h13 h14 k0 (((a0 - 1) * 4) + a1) a2) (t1 := t_X8_isFound_1) (o := (some (.int 0))) (ws := [(h0, .inr (11, [.int 0, .ref h1, .ref h3, .ref h4, .int 0, .ref h5, .int 0, .ref h6, .ref h7, .ref h8, .ref h9, .int 0, .ref h10, .int (-1), .ref h11])), (h1, .inr (8, [.ref h12, .ref h2, .ref h13, .ref h14, .int 0, .int 0])), (h2, .inl (k0, 1000, .inl (fun _ => 0)))]) (wc := [(h1, .inr (8, [.ref h12, .ref h2, .ref h13, .ref h14, .int 0, .int 0])), (h2, .inl (k0, 1000, .inl (fun _ => 0)))]) (wr := [(h0, .inr (11, [.int 0, .ref h1, .ref h3, .ref h4, .int 0, .ref h5, .int 0, .ref h6, .ref h7, .ref h8, .ref h9, .int 0, .ref h10, .int (-1), .ref h11]))]) (va_runV (C := RX8) (b := h1) (As := [.int (((a0 - 1) * 4) + a1), .int a2]) (rest := []) ⟨hx, hb, hml, hown, hts⟩ (c_X8_isFound_1 l D h1 h2 h12 h13 h14 k0 (((a0 - 1) * 4) + a1) a2 s.heap.size v1) (cwV 2 hts (gTV kw283 kw284 kw285 kw286 kw20) rfl rfl rfl hd24 ⟨(Nat.le_of_ble_eq_true rfl), (Nat.le_of_ble_eq_true rfl)⟩) ⟨SP.blind, q_recv (ws := [(h0, .inr (11, [.int 0, .ref h1, .ref h3, .ref h4, .int 0, .ref h5, .int 0, .ref h6, .ref h7, .ref h8, .ref h9, .int 0, .ref h10, .int (-1), .ref h11])), (h1, .inr (8, [.ref h12, .ref h2, .ref h13, .ref h14, .int 0, .int 0])), (h2, .inl (k0, 1000, .inl (fun _ => 0)))]) (wc := []) (r := (RX8, TX8, 6)) (ci := 8) (i := 1) hP hK rfl rfl, (SP.pre hP hK hD hE [1, 2] [0] rfl rfl rfl).2⟩ rfl rfl hl.1 rfl (lv_room (Nat.le_of_ble_eq_true rfl)) dX11_found_37 ⟨(Nat.le_of_ble_eq_true rfl), (Nat.le_of_ble_eq_true rfl)⟩) hP hK hD hS hA [1, 2] [0] rfl rfl rfl (by decide) (fun u H locs hP hK hD hS => ?_)
  refine W.eq (g2 := F0 m 40 ls [.int 0]) rfl ?_
  refine W.cs (cells' := 0) (slots' := 0) rfl rfl ?_
  have hP : va_P D vwCl [(h0, .inr (11, [.int 0, .ref h1, .ref h3, .ref h4, .int 0, .ref h5, .int 0, .ref h6, .ref h7, .ref h8, .ref h9, .int 0, .ref h10, .int (-1), .ref h11])), (h1, .inr (8, [.ref h12, .ref h2, .ref h13, .ref h14, .int 0, .int 0])), (h2, .inl (k0, 1000, .inl (fun _ => 0)))] H := hP
  have hD : va_D A [(h0, .inr (11, [.int 0, .ref h1, .ref h3, .ref h4, .int 0, .ref h5, .int 0, .ref h6, .ref h7, .ref h8, .ref h9, .int 0, .ref h10, .int (-1), .ref h11])), (h1, .inr (8, [.ref h12, .ref h2, .ref h13, .ref h14, .int 0, .int 0])), (h2, .inl (k0, 1000, .inl (fun _ => 0)))] := hD
  have hK : va_K D vwCl [(k0, .int)] s := hK
  refine lv_if_eq (tgt := 56) hx hb dX11_found_40 (by decide) (fun _ => ?_) (fun c9 => absurd (by decide +kernel) c9)
  refine lv_iconst (v := (-1)) hx hb dX11_found_56 (by decide) ?_
  exact q_iret () hx hb hr hlocks hP hK hD hS [0, 1, 2] [] rfl rfl rfl dX11_found_57 (Nat.le_of_ble_eq_true rfl) (Nat.le_of_ble_eq_true rfl)
set_option maxHeartbeats 4000000 in
set_option maxRecDepth 100000 in
theorem c_X11_found_2 (l : Launch) (hst : l.stackTraces = false) (D : va_G) (h0 : Nat) (a0 a1 a2 : Int32) (sz : Nat) (v0 : ¬ vTold a0 a1 a2) : vx_Met l yX11_found (.code yX11_found cX11_found 5 (some .int) :: wT) ({ frames := 7, cells := 1, slots := 6, locals := 103 } : Room) (SPx D [.ref h0, .int a0, .int a1, .int a2] [] [] sz) QNo (XQ "java/lang/IllegalArgumentException" (va_A [] sz)) 1 6 (va_A [] sz) := by
  refine SPx.start (by decide) (Nat.le_of_ble_eq_true rfl) ?_
  intro p e s m below meth c ls A hx hb hr hml hown hts hlocks htab hA hP hK hD hE hZ hl hS
  have hown : s.vm.findClass RX11 = some m.cls := hown
  have hl : lv_has ls 5 [(0, .ref h0), (1, .int a0), (2, .int a1), (3, .int a2)] := hl
  refine lv_iload_n hx hb dX11_found_0 rfl (lv_at hl 1 rfl) ?_
  refine lv_iload_n hx hb dX11_found_1 rfl (lv_at hl 2 rfl) ?_
  refine q_runP (va_runS (As := [.int a0, .int a1]) (rest := []) ⟨hx, hb, hml, hown, hts⟩ (c_isAir l a0 a1) (cwS 2 hts (gTS kw233 kw234 kw235 kw3) rfl rfl rfl hd11 ⟨(Nat.le_of_ble_eq_true rfl), (Nat.le_of_ble_eq_true rfl)⟩) preEq rfl rfl hl.1 rfl (lv_room (Nat.le_of_ble_eq_true rfl)) dX11_found_2 ⟨(Nat.le_of_ble_eq_true rfl), (Nat.le_of_ble_eq_true rfl)⟩) ?_
  refine lv_if_eq (tgt := 19) hx hb dX11_found_5 (by decide) (fun c1 => ?_) (fun c1 => ?_)
  · have c1 := bz_n c1
    refine lv_iconst (v := 0) hx hb dX11_found_19 (by decide) ?_
    exact q_xout (B := va_A [] s.heap.size) (vx_runS (As := [.int 0]) (rest := []) ⟨hx, hb, hml, hown, hts⟩ (c_X11_require_1 l hst D s.heap.size) (cwS 1 hts (gTS kw242 kw243 kw244 kw3) rfl rfl rfl hd14 ⟨(Nat.le_of_ble_eq_true rfl), (Nat.le_of_ble_eq_true rfl)⟩) (SPx.pre hP hK hD hE hZ hS hA [] [] rfl rfl rfl) rfl rfl hl.1 rfl (lv_room (Nat.le_of_ble_eq_true rfl)) dX11_found_20 ⟨(Nat.le_of_ble_eq_true rfl), (Nat.le_of_ble_eq_true rfl)⟩) hS (va_free (wc := []) hD hS hA [] rfl) htab hlocks (Nat.le_of_ble_eq_true rfl) (Nat.le_of_ble_eq_true rfl)
  · have c1 := bz_p c1
    refine lv_iload_n hx hb dX11_found_8 rfl (lv_at hl 3 rfl) ?_
    refine q_runP (va_runS (As := [.int a2]) (rest := []) ⟨hx, hb, hml, hown, hts⟩ (c_isHour l a2) (cwS 1 hts (gTS kw0 kw1 kw2 kw3) rfl rfl rfl hd0 ⟨(Nat.le_of_ble_eq_true rfl), (Nat.le_of_ble_eq_true rfl)⟩) preEq rfl rfl hl.1 rfl (lv_room (Nat.le_of_ble_eq_true rfl)) dX11_found_9 ⟨(Nat.le_of_ble_eq_true rfl), (Nat.le_of_ble_eq_true rfl)⟩) ?_
    refine lv_if_eq (tgt := 19) hx hb dX11_found_12 (by decide) (fun c2 => ?_) (fun c2 => ?_)
    · have c2 := bz_n c2
      refine lv_iconst (v := 0) hx hb dX11_found_19 (by decide) ?_
      exact q_xout (B := va_A [] s.heap.size) (vx_runS (As := [.int 0]) (rest := []) ⟨hx, hb, hml, hown, hts⟩ (c_X11_require_1 l hst D s.heap.size) (cwS 1 hts (gTS kw242 kw243 kw244 kw3) rfl rfl rfl hd14 ⟨(Nat.le_of_ble_eq_true rfl), (Nat.le_of_ble_eq_true rfl)⟩) (SPx.pre hP hK hD hE hZ hS hA [] [] rfl rfl rfl) rfl rfl hl.1 rfl (lv_room (Nat.le_of_ble_eq_true rfl)) dX11_found_20 ⟨(Nat.le_of_ble_eq_true rfl), (Nat.le_of_ble_eq_true rfl)⟩) hS (va_free (wc := []) hD hS hA [] rfl) htab hlocks (Nat.le_of_ble_eq_true rfl) (Nat.le_of_ble_eq_true rfl)
    · have c2 := bz_p c2
      exact absurd (show vTold a0 a1 a2 from ⟨c1, c2⟩) v0
abbrev w_X8_cover_1 (h0 h1 h2 h3 h4 : Nat) (k0 : ClassId) (a0 a1 : Int32) (_ : Unit) : va_W := [(h0, .inr (8, [.ref h2, .ref h3, .ref h1, .ref h4, .int 0, .int 0]))]
abbrev t_X8_cover_1 (_ : Unit) : List (ClassId × FieldType) := []
abbrev Q_X8_cover_1 (D : va_G) (h0 h1 h2 h3 h4 : Nat) (k0 : ClassId) (a0 a1 : Int32) (A : Nat → Prop) : Array Value → State → Outcome → State → Prop := QW (.returned none) D (w_X8_cover_1 h0 h1 h2 h3 h4 k0 a0 a1) t_X8_cover_1 A
set_option maxHeartbeats 4000000 in
set_option maxRecDepth 100000 in
theorem c_X8_cover_1 (l : Launch) (D : va_G) (h0 h1 h2 h3 h4 : Nat) (k0 : ClassId) (a0 a1 : Int32) (sz : Nat) (v0 : pHours a0 a1) : Met l yX8_cover (.code yX8_cover cX8_cover 5 none :: wT) ({ frames := 1, cells := 0, slots := 0, locals := 20 } : Room) (SP D [.ref h0, .int a0, .int a1, .int 0] [(h0, .inr (8, [.ref h2, .ref h3, .ref h1, .ref h4, .int 0, .int 0])), (h1, .inl (k0, 1000, .inl (fun _ => 0)))] [(k0, .boolean)] sz) (Q_X8_cover_1 D h0 h1 h2 h3 h4 k0 a0 a1 (va_A [(h0, .inr (8, [.ref h2, .ref h3, .ref h1, .ref h4, .int 0, .int 0])), (h1, .inl (k0, 1000, .inl (fun _ => 0)))] sz)) 0 0 (va_A [(h0, .inr (8, [.ref h2, .ref h3, .ref h1, .ref h4, .int 0, .int 0])), (h1, .inl (k0, 1000, .inl (fun _ => 0)))] sz) := by
  refine SP.start (Qf := Q_X8_cover_1 D h0 h1 h2 h3 h4 k0 a0 a1) (by decide) (Nat.le_of_ble_eq_true rfl) ?_
  intro p e s m below meth c ls A hx hb hr hml hown hts hlocks hname hA hP hK hD hE hl hS
  have hown : s.vm.findClass RX8 = some m.cls := hown
  have hl : lv_has ls 5 [(0, .ref h0), (1, .int a0), (2, .int a1), (3, .int 0)] := hl
  refine lv_iload_n hx hb dX8_cover_0 rfl (lv_at hl 1 rfl) ?_
  refine lv_istore (lv' := [(4, .int a0), (0, .ref h0), (1, .int a0), (2, .int a1), (3, .int 0)]) hx hb dX8_cover_1 hl (by decide) rfl (fun ls hl => ?_)
  refine lw_loop (σ := Int32 × (Nat → Int32)) (I := fun n z H ls locs => vL n a0 z.1 (a0 + a1) ∧ lv_has ls 5 [(4, .int z.1), (0, .ref h0), (1, .int a0), (2, .int a1), (3, .int 0)] ∧ va_P D vwCl [(h0, .inr (8, [.ref h2, .ref h3, .ref h1, .ref h4, .int 0, .int 0])), (h1, .inl (k0, 1000, .inl z.2))] H ∧ va_D A [(h0, .inr (8, [.ref h2, .ref h3, .ref h1, .ref h4, .int 0, .int 0])), (h1, .inl (k0, 1000, .inl z.2))] ∧ va_S A s.heap H locs) ?_ _ (a0, (fun _ => 0)) _ _ _ ⟨vL.of (hours_le v0), lv_sub hl [0, 1, 2, 3, 4] rfl, hP, hD, hS⟩
  clear hP hD hS hl
  intro n z H ls locs hI ih
  obtain ⟨hv, hl, hP, hD, hS⟩ := hI
  obtain ⟨i1, G2⟩ := z
  have hv : vL n a0 i1 (a0 + a1) := hv
  have hl : lv_has ls 5 [(4, .int i1), (0, .ref h0), (1, .int a0), (2, .int a1), (3, .int 0)] := hl
  have hP : va_P D vwCl [(h0, .inr (8, [.ref h2, .ref h3, .ref h1, .ref h4, .int 0, .int 0])), (h1, .inl (k0, 1000, .inl G2))] H := hP
  have hD : va_D A [(h0, .inr (8, [.ref h2, .ref h3, .ref h1, .ref h4, .int 0, .int 0])), (h1, .inl (k0, 1000, .inl G2))] := hD
  refine lv_iload hx hb dX8_cover_3 (lv_at hl 0 rfl) ?_
  refine lv_iload_n hx hb dX8_cover_5 rfl (lv_at hl 2 rfl) ?_
  refine lv_iload_n hx hb dX8_cover_6 rfl (lv_at hl 3 rfl) ?_
  refine lv_iadd hx hb dX8_cover_7 ?_
  refine lv_icmp_ge (tgt := 33) hx hb dX8_cover_8 (by decide) (fun c3 => ?_) (fun c3 => ?_)
  · exact q_vret () hx hb hr hlocks hP hK hD hS [0] [] rfl rfl rfl dX8_cover_33 (Nat.le_of_ble_eq_true rfl) (Nat.le_of_ble_eq_true rfl)
  · refine lv_iload hx hb dX8_cover_11 (lv_at hl 0 rfl) ?_
    refine q_runP (va_runSN (As := [.int i1]) (rest := []) ⟨hx, hb, hml, hown, hts⟩ (c_isHour l i1) ⟨va_cnB 1 hts (gT kw0) rfl rfl rfl (hE.1 _ nw251 rfl) (hts _ kw3) hd17 ⟨(Nat.le_of_ble_eq_true rfl), (Nat.le_of_ble_eq_true rfl)⟩, hts _ kw2, trivial⟩ preEq rfl rfl hl.1 rfl (lv_room (Nat.le_of_ble_eq_true rfl)) dX8_cover_13 ⟨(Nat.le_of_ble_eq_true rfl), (Nat.le_of_ble_eq_true rfl)⟩) ?_
    refine lv_if_eq (tgt := 27) hx hb dX8_cover_16 (by decide) (fun c4 => ?_) (fun c4 => ?_)
    · have c4 := bz_n c4
      refine lv_iinc (v := i1 + 1) (lv' := [(4, .int (i1 + 1)), (0, .ref h0), (1, .int a0), (2, .int a1), (3, .int 0)]) hx hb dX8_cover_27 hl (k := 0) rfl rfl (by decide) rfl (fun ls hl => ?_)
      refine lv_goto (tgt := 3) hx hb dX8_cover_30 (by decide) ?_
      exact ih _ (i1 + 1, G2) _ _ _ (hv.step c3).1 ⟨(hv.step c3).2, lv_sub hl [0, 1, 2, 3, 4] rfl, hP, hD, hS⟩
    · have c4 := bz_p c4
      refine lv_aload_n hx hb dX8_cover_19 rfl (lv_at hl 1 rfl) ?_
      refine va_get (D := D) (ci := 8) (v := .ref h1) (C := RX8) (T := TX8) (N := 6) hx hb hts iX8 hown hK hP 0 rfl rfl 2 (by decide) (hts _ kw26) (fun _ h9 => h9) rfl dX8_cover_20 ?_
      refine lv_iload hx hb dX8_cover_23 (lv_at hl 0 rfl) ?_
      refine lv_iload_n hx hb dX8_cover_25 rfl (lv_at hl 4 rfl) ?_
      refine va_zast hx hb hK hP hD hS 1 0 rfl rfl (hour_vin c4) dX8_cover_26 (fun H locs hP hD hS => ?_)
      have hP : va_P D vwCl [(h0, .inr (8, [.ref h2, .ref h3, .ref h1, .ref h4, .int 0, .int 0])), (h1, .inl (k0, 1000, .inl (upd G2 (i1 : Int32).toNatClampNeg (vp_nar .boolean 0))))] H := hP
      have hD : va_D A [(h0, .inr (8, [.ref h2, .ref h3, .ref h1, .ref h4, .int 0, .int 0])), (h1, .inl (k0, 1000, .inl (upd G2 (i1 : Int32).toNatClampNeg (vp_nar .boolean 0))))] := hD
      refine lv_iinc (v := i1 + 1) (lv' := [(4, .int (i1 + 1)), (0, .ref h0), (1, .int a0), (2, .int a1), (3, .int 0)]) hx hb dX8_cover_27 hl (k := 0) rfl rfl (by decide) rfl (fun ls hl => ?_)
      refine lv_goto (tgt := 3) hx hb dX8_cover_30 (by decide) ?_
      exact ih _ (i1 + 1, (upd G2 (i1 : Int32).toNatClampNeg (vp_nar .boolean 0))) _ _ _ (hv.step c3).1 ⟨(hv.step c3).2, lv_sub hl [0, 1, 2, 3, 4] rfl, hP, hD, hS⟩
abbrev w_X11_cloud_1 (h0 h1 h2 h3 h4 h5 h6 h7 h8 h9 h10 h11 h12 h13 h14 : Nat) (k0 : ClassId) (a0 a1 : Int32) (_ : Unit) : va_W := [(h0, .inr (11, [.int 0, .ref h1, .ref h3, .ref h4, .int 0, .ref h5, .int 0, .ref h6, .ref h7, .ref h8, .ref h9, .int 0, .ref h10, .int (-1), .ref h11])), (h1, .inr (8, [.ref h12, .ref h13, .ref h2, .ref h14, .int 0, .int 0]))]
abbrev t_X11_cloud_1 (_ : Unit) : List (ClassId × FieldType) := []
abbrev Q_X11_cloud_1 (D : va_G) (h0 h1 h2 h3 h4 h5 h6 h7 h8 h9 h10 h11 h12 h13 h14 : Nat) (k0 : ClassId) (a0 a1 : Int32) (A : Nat → Prop) : Array Value → State → Outcome → State → Prop := QW (.returned (some (.int 1))) D (w_X11_cloud_1 h0 h1 h2 h3 h4 h5 h6 h7 h8 h9 h10 h11 h12 h13 h14 k0 a0 a1) t_X11_cloud_1 A
set_option maxHeartbeats 4000000 in
set_option maxRecDepth 100000 in
theorem c_X11_cloud_1 (l : Launch) (D : va_G) (h0 h1 h2 h3 h4 h5 h6 h7 h8 h9 h10 h11 h12 h13 h14 : Nat) (k0 : ClassId) (a0 a1 : Int32) (sz : Nat) (v0 : pHours a0 a1) : Met l yX11_cloud (.code yX11_cloud cX11_cloud 4 (some .int) :: wT) ({ frames := 2, cells := 0, slots := 0, locals := 44 } : Room) (SP D [.ref h0, .int a0, .int a1, .int 0] [(h0, .inr (11, [.int 0, .ref h1, .ref h3, .ref h4, .int 0, .ref h5, .int 0, .ref h6, .ref h7, .ref h8, .ref h9, .int 0, .ref h10, .int (-1), .ref h11])), (h1, .inr (8, [.ref h12, .ref h13, .ref h2, .ref h14, .int 0, .int 0])), (h2, .inl (k0, 1000, .inl (fun _ => 0)))] [(k0, .boolean)] sz) (Q_X11_cloud_1 D h0 h1 h2 h3 h4 h5 h6 h7 h8 h9 h10 h11 h12 h13 h14 k0 a0 a1 (va_A [(h0, .inr (11, [.int 0, .ref h1, .ref h3, .ref h4, .int 0, .ref h5, .int 0, .ref h6, .ref h7, .ref h8, .ref h9, .int 0, .ref h10, .int (-1), .ref h11])), (h1, .inr (8, [.ref h12, .ref h13, .ref h2, .ref h14, .int 0, .int 0])), (h2, .inl (k0, 1000, .inl (fun _ => 0)))] sz)) 0 0 (va_A [(h0, .inr (11, [.int 0, .ref h1, .ref h3, .ref h4, .int 0, .ref h5, .int 0, .ref h6, .ref h7, .ref h8, .ref h9, .int 0, .ref h10, .int (-1), .ref h11])), (h1, .inr (8, [.ref h12, .ref h13, .ref h2, .ref h14, .int 0, .int 0])), (h2, .inl (k0, 1000, .inl (fun _ => 0)))] sz) := by
  refine SP.start (Qf := Q_X11_cloud_1 D h0 h1 h2 h3 h4 h5 h6 h7 h8 h9 h10 h11 h12 h13 h14 k0 a0 a1) (by decide) (Nat.le_of_ble_eq_true rfl) ?_
  intro p e s m below meth c ls A hx hb hr hml hown hts hlocks hname hA hP hK hD hE hl hS
  have hown : s.vm.findClass RX11 = some m.cls := hown
  have hl : lv_has ls 4 [(0, .ref h0), (1, .int a0), (2, .int a1), (3, .int 0)] := hl
  refine lv_iload_n hx hb dX11_cloud_0 rfl (lv_at hl 1 rfl) ?_
  refine lv_iload_n hx hb dX11_cloud_1 rfl (lv_at hl 2 rfl) ?_
  refine q_runP (va_runS (As := [.int a0, .int a1]) (rest := []) ⟨hx, hb, hml, hown, hts⟩ (c_areHours l a0 a1) (cwS 2 hts (gTS kw236 kw237 kw238 kw3) rfl rfl rfl hd12 ⟨(Nat.le_of_ble_eq_true rfl), (Nat.le_of_ble_eq_true rfl)⟩) preEq rfl rfl hl.1 rfl (lv_room (Nat.le_of_ble_eq_true rfl)) dX11_cloud_2 ⟨(Nat.le_of_ble_eq_true rfl), (Nat.le_of_ble_eq_true rfl)⟩) ?_
  refine lv_lit (v := 1) (bz_t v0) ?_
  refine q_runPv (va_runS (As := [.int 1]) (rest := []) ⟨hx, hb, hml, hown, hts⟩ (c_require_1 l) (cwS 1 hts (gTS kw242 kw243 kw244 kw3) rfl rfl rfl hd14 ⟨(Nat.le_of_ble_eq_true rfl), (Nat.le_of_ble_eq_true rfl)⟩) preEq rfl rfl hl.1 rfl (lv_room (Nat.le_of_ble_eq_true rfl)) dX11_cloud_5 ⟨(Nat.le_of_ble_eq_true rfl), (Nat.le_of_ble_eq_true rfl)⟩) ?_
  refine lv_aload_n hx hb dX11_cloud_8 rfl (lv_at hl 0 rfl) ?_
  refine va_get (D := D) (ci := 11) (v := .ref h1) (C := RX11) (T := TX11) (N := 15) hx hb hts iX11 hown hK hP 0 rfl rfl 1 (by decide) (hts _ kw34) (fun _ h9 => h9) rfl dX11_cloud_9 ?_
  refine lv_iload_n hx hb dX11_cloud_12 rfl (lv_at hl 1 rfl) ?_
  refine lv_iload_n hx hb dX11_cloud_13 rfl (lv_at hl 2 rfl) ?_
  refine lv_iload_n hx hb dX11_cloud_14 rfl (lv_at hl 3 rfl) ?_
  refine q_run (D := D) (w1 := w_X8_cover_1 h1 h2 h12 h13 h14 k0 a0 a1) (t1 := t_X8_cover_1) (o := none) (ws := [(h0, .inr (11, [.int 0, .ref h1, .ref h3, .ref h4, .int 0, .ref h5, .int 0, .ref h6, .ref h7, .ref h8, .ref h9, .int 0, .ref h10, .int (-1), .ref h11])), (h1, .inr (8, [.ref h12, .ref h13, .ref h2, .ref h14, .int 0, .int 0])), (h2, .inl (k0, 1000, .inl (fun _ => 0)))]) (wc := [(h1, .inr (8, [.ref h12, .ref h13, .ref h2, .ref h14, .int 0, .int 0])), (h2, .inl (k0, 1000, .inl (fun _ => 0)))]) (wr := [(h0, .inr (11, [.int 0, .ref h1, .ref h3, .ref h4, .int 0, .ref h5, .int 0, .ref h6, .ref h7, .ref h8, .ref h9, .int 0, .ref h10, .int (-1), .ref h11]))]) (va_runV (C := RX8) (b := h1) (As := [.int a0, .int a1, .int 0]) (rest := []) ⟨hx, hb, hml, hown, hts⟩ (c_X8_cover_1 l D h1 h2 h12 h13 h14 k0 a0 a1 s.heap.size v0) (cwV 3 hts (gTV kw287 kw288 kw289 kw290 kw20) rfl rfl rfl hd25 ⟨(Nat.le_of_ble_eq_true rfl), (Nat.le_of_ble_eq_true rfl)⟩) ⟨SP.blind, q_recv (ws := [(h0, .inr (11, [.int 0, .ref h1, .ref h3, .ref h4, .int 0, .ref h5, .int 0, .ref h6, .ref h7, .ref h8, .ref h9, .int 0, .ref h10, .int (-1), .ref h11])), (h1, .inr (8, [.ref h12, .ref h13, .ref h2, .ref h14, .int 0, .int 0])), (h2, .inl (k0, 1000, .inl (fun _ => 0)))]) (wc := []) (r := (RX8, TX8, 6)) (ci := 8) (i := 1) hP hK rfl rfl, (SP.pre hP hK hD hE [1, 2] [0] rfl rfl rfl).2⟩ rfl rfl hl.1 rfl (lv_room (Nat.le_of_ble_eq_true rfl)) dX11_cloud_15 ⟨(Nat.le_of_ble_eq_true rfl), (Nat.le_of_ble_eq_true rfl)⟩) hP hK hD hS hA [1, 2] [0] rfl rfl rfl (by decide) (fun u H locs hP hK hD hS => ?_)
  refine W.eq (g2 := F0 m 18 ls []) rfl ?_
  refine W.cs (cells' := 0) (slots' := 0) rfl rfl ?_
  have hP : va_P D vwCl [(h0, .inr (11, [.int 0, .ref h1, .ref h3, .ref h4, .int 0, .ref h5, .int 0, .ref h6, .ref h7, .ref h8, .ref h9, .int 0, .ref h10, .int (-1), .ref h11])), (h1, .inr (8, [.ref h12, .ref h13, .ref h2, .ref h14, .int 0, .int 0]))] H := hP
  have hD : va_D A [(h0, .inr (11, [.int 0, .ref h1, .ref h3, .ref h4, .int 0, .ref h5, .int 0, .ref h6, .ref h7, .ref h8, .ref h9, .int 0, .ref h10, .int (-1), .ref h11])), (h1, .inr (8, [.ref h12, .ref h13, .ref h2, .ref h14, .int 0, .int 0]))] := hD
  have hK : va_K D vwCl [(k0, .boolean)] s := hK
  refine lv_iconst (v := 1) hx hb dX11_cloud_18 (by decide) ?_
  exact q_iret () hx hb hr hlocks hP hK hD hS [0, 1] [] rfl rfl rfl dX11_cloud_19 (Nat.le_of_ble_eq_true rfl) (Nat.le_of_ble_eq_true rfl)
set_option maxHeartbeats 4000000 in
set_option maxRecDepth 100000 in
theorem c_X11_cloud_2 (l : Launch) (hst : l.stackTraces = false) (D : va_G) (h0 : Nat) (a0 a1 : Int32) (sz : Nat) (v0 : ¬ pHours a0 a1) : vx_Met l yX11_cloud (.code yX11_cloud cX11_cloud 4 (some .int) :: wT) ({ frames := 7, cells := 1, slots := 6, locals := 103 } : Room) (SPx D [.ref h0, .int a0, .int a1, .int 1] [] [] sz) QNo (XQ "java/lang/IllegalArgumentException" (va_A [] sz)) 1 6 (va_A [] sz) := by
  refine SPx.start (by decide) (Nat.le_of_ble_eq_true rfl) ?_
  intro p e s m below meth c ls A hx hb hr hml hown hts hlocks htab hA hP hK hD hE hZ hl hS
  have hown : s.vm.findClass RX11 = some m.cls := hown
  have hl : lv_has ls 4 [(0, .ref h0), (1, .int a0), (2, .int a1), (3, .int 1)] := hl
  refine lv_iload_n hx hb dX11_cloud_0 rfl (lv_at hl 1 rfl) ?_
  refine lv_iload_n hx hb dX11_cloud_1 rfl (lv_at hl 2 rfl) ?_
  refine q_runP (va_runS (As := [.int a0, .int a1]) (rest := []) ⟨hx, hb, hml, hown, hts⟩ (c_areHours l a0 a1) (cwS 2 hts (gTS kw236 kw237 kw238 kw3) rfl rfl rfl hd12 ⟨(Nat.le_of_ble_eq_true rfl), (Nat.le_of_ble_eq_true rfl)⟩) preEq rfl rfl hl.1 rfl (lv_room (Nat.le_of_ble_eq_true rfl)) dX11_cloud_2 ⟨(Nat.le_of_ble_eq_true rfl), (Nat.le_of_ble_eq_true rfl)⟩) ?_
  refine lv_lit (v := 0) (bz_f v0) ?_
  exact q_xout (B := va_A [] s.heap.size) (vx_runS (As := [.int 0]) (rest := []) ⟨hx, hb, hml, hown, hts⟩ (c_X11_require_1 l hst D s.heap.size) (cwS 1 hts (gTS kw242 kw243 kw244 kw3) rfl rfl rfl hd14 ⟨(Nat.le_of_ble_eq_true rfl), (Nat.le_of_ble_eq_true rfl)⟩) (SPx.pre hP hK hD hE hZ hS hA [] [] rfl rfl rfl) rfl rfl hl.1 rfl (lv_room (Nat.le_of_ble_eq_true rfl)) dX11_cloud_5 ⟨(Nat.le_of_ble_eq_true rfl), (Nat.le_of_ble_eq_true rfl)⟩) hS (va_free (wc := []) hD hS hA [] rfl) htab hlocks (Nat.le_of_ble_eq_true rfl) (Nat.le_of_ble_eq_true rfl)
abbrev w_X4_init_1 (h0 : Nat) (u : Nat × Nat × Nat × Nat) : va_W := [(h0, .inr (4, [.ref u.1, .int 0, .ref u.2.2.1, .int 0, .int 0, .int 0])), (u.1, .inl (u.2.1, 300, .inl (fun _ => 0))), (u.2.2.1, .inl (u.2.2.2, 300, .inl (fun _ => 0)))]
abbrev t_X4_init_1 (u : Nat × Nat × Nat × Nat) : List (ClassId × FieldType) := [(u.2.1, .int), (u.2.2.2, .int)]
abbrev Q_X4_init_1 (D : va_G) (h0 : Nat) (A : Nat → Prop) : Array Value → State → Outcome → State → Prop := QW (.returned none) D (w_X4_init_1 h0) t_X4_init_1 A
set_option maxHeartbeats 4000000 in
set_option maxRecDepth 100000 in
theorem c_X4_init_1 (l : Launch) (D : va_G) (h0 : Nat) (sz : Nat) : Met l yX4_init (.code yX4_init cX4_init 1 none :: wT) ({ frames := 1, cells := 2, slots := 600, locals := 12 } : Room) (SP D [.ref h0] [(h0, .inr (4, [.null, .int 0, .null, .int 0, .int 0, .int 0]))] [] sz) (Q_X4_init_1 D h0 (va_A [(h0, .inr (4, [.null, .int 0, .null, .int 0, .int 0, .int 0]))] sz)) 2 600 (va_A [(h0, .inr (4, [.null, .int 0, .null, .int 0, .int 0, .int 0]))] sz) := by
  refine SP.start (Qf := Q_X4_init_1 D h0) (by decide) (Nat.le_of_ble_eq_true rfl) ?_
  intro p e s m below meth c ls A hx hb hr hml hown hts hlocks hname hA hP hK hD hE hl hS
  have hown : s.vm.findClass RX4 = some m.cls := hown
  have hl : lv_has ls 1 [(0, .ref h0)] := hl
  refine lv_aload_n hx hb dX4_init_0 rfl (lv_at hl 0 rfl) ?_
  refine W.objInit hx hb hown (hts _ kw300) (hts _ kw15) (hts _ kw16) rfl (by rw [hml]; exact hl.1) rfl dX4_init_1 (Nat.le_of_ble_eq_true rfl) (Nat.le_of_ble_eq_true rfl) ?_
  refine W.eq (g2 := F0 m 4 ls []) rfl ?_
  refine lv_aload_n hx hb dX4_init_4 rfl (lv_at hl 0 rfl) ?_
  refine lv_sipush (v := 300) hx hb dX4_init_5 (by decide +kernel) ?_
  refine va_newa (D := D) (atype := .int) (a0 := (300, .inl (fun _ => 0))) (N' := 300) hx hb (hts _ kw22) rfl hK hP hD hS hA (fun _ => rfl) (by decide +kernel) (by decide +kernel) (Nat.le_of_ble_eq_true rfl) (Nat.le_of_ble_eq_true rfl) (Nat.le_of_ble_eq_true rfl) dX4_init_8 (fun q1 k2 H hK hP hD hS => ?_)
  have hP : va_P D vwCl [(h0, .inr (4, [.null, .int 0, .null, .int 0, .int 0, .int 0])), (q1, .inl (k2, 300, .inl (fun _ => 0)))] H := hP
  have hD : va_D A [(h0, .inr (4, [.null, .int 0, .null, .int 0, .int 0, .int 0])), (q1, .inl (k2, 300, .inl (fun _ => 0)))] := hD
  have hK : va_K D vwCl [(k2, .int)] s := hK
  refine W.cs (cells' := 1) (slots' := 300) rfl rfl ?_
  refine va_putF (D := D) (ci := 4) (v := .ref q1) (ty := .array .int) (C := RX4) (T := TX4) (N := 6) hx hb hts iX4 tyX4 tyX4_ok nmX4 hown hK hP hD hS 0 rfl rfl 0 (by decide) (hts _ kw301) (fun _ h9 => h9) rfl hname rfl (tyX4_ok 0 (by decide)) rfl rfl (Nat.le_of_ble_eq_true rfl) dX4_init_10 (fun H locs hP hD hS => ?_)
  have hP : va_P D vwCl [(h0, .inr (4, [.ref q1, .int 0, .null, .int 0, .int 0, .int 0])), (q1, .inl (k2, 300, .inl (fun _ => 0)))] H := hP
  have hD : va_D A [(h0, .inr (4, [.ref q1, .int 0, .null, .int 0, .int 0, .int 0])), (q1, .inl (k2, 300, .inl (fun _ => 0)))] := hD
  refine lv_aload_n hx hb dX4_init_13 rfl (lv_at hl 0 rfl) ?_
  refine lv_iconst (v := 0) hx hb dX4_init_14 (by decide) ?_
  refine va_put (D := D) (ci := 4) (v := .int 0) (ty := .int) (C := RX4) (T := TX4) (N := 6) hx hb hts iX4 tyX4 tyX4_ok nmX4 hown hK hP hD hS 0 rfl rfl 1 (by decide) (hts _ kw302) (fun _ h9 => h9) rfl (tyX4_ok 1 (by decide)) rfl rfl (Nat.le_of_ble_eq_true rfl) dX4_init_15 (fun H locs hP hD hS => ?_)
  have hP : va_P D vwCl [(h0, .inr (4, [.ref q1, .int 0, .null, .int 0, .int 0, .int 0])), (q1, .inl (k2, 300, .inl (fun _ => 0)))] H := hP
  have hD : va_D A [(h0, .inr (4, [.ref q1, .int 0, .null, .int 0, .int 0, .int 0])), (q1, .inl (k2, 300, .inl (fun _ => 0)))] := hD
  refine lv_aload_n hx hb dX4_init_18 rfl (lv_at hl 0 rfl) ?_
  refine lv_sipush (v := 300) hx hb dX4_init_19 (by decide +kernel) ?_
  refine va_newa (D := D) (atype := .int) (a0 := (300, .inl (fun _ => 0))) (N' := 300) hx hb (hts _ kw22) rfl hK hP hD hS hA (fun _ => rfl) (by decide +kernel) (by decide +kernel) (Nat.le_of_ble_eq_true rfl) (Nat.le_of_ble_eq_true rfl) (Nat.le_of_ble_eq_true rfl) dX4_init_22 (fun q3 k4 H hK hP hD hS => ?_)
  have hP : va_P D vwCl [(h0, .inr (4, [.ref q1, .int 0, .null, .int 0, .int 0, .int 0])), (q1, .inl (k2, 300, .inl (fun _ => 0))), (q3, .inl (k4, 300, .inl (fun _ => 0)))] H := hP
  have hD : va_D A [(h0, .inr (4, [.ref q1, .int 0, .null, .int 0, .int 0, .int 0])), (q1, .inl (k2, 300, .inl (fun _ => 0))), (q3, .inl (k4, 300, .inl (fun _ => 0)))] := hD
  have hK : va_K D vwCl [(k2, .int), (k4, .int)] s := hK
  refine W.cs (cells' := 2) (slots' := 600) rfl rfl ?_
  refine va_putF (D := D) (ci := 4) (v := .ref q3) (ty := .array .int) (C := RX4) (T := TX4) (N := 6) hx hb hts iX4 tyX4 tyX4_ok nmX4 hown hK hP hD hS 0 rfl rfl 2 (by decide) (hts _ kw303) (fun _ h9 => h9) rfl hname rfl (tyX4_ok 2 (by decide)) rfl rfl (Nat.le_of_ble_eq_true rfl) dX4_init_24 (fun H locs hP hD hS => ?_)
  have hP : va_P D vwCl [(h0, .inr (4, [.ref q1, .int 0, .ref q3, .int 0, .int 0, .int 0])), (q1, .inl (k2, 300, .inl (fun _ => 0))), (q3, .inl (k4, 300, .inl (fun _ => 0)))] H := hP
  have hD : va_D A [(h0, .inr (4, [.ref q1, .int 0, .ref q3, .int 0, .int 0, .int 0])), (q1, .inl (k2, 300, .inl (fun _ => 0))), (q3, .inl (k4, 300, .inl (fun _ => 0)))] := hD
  refine lv_aload_n hx hb dX4_init_27 rfl (lv_at hl 0 rfl) ?_
  refine lv_iconst (v := 0) hx hb dX4_init_28 (by decide) ?_
  refine va_put (D := D) (ci := 4) (v := .int 0) (ty := .int) (C := RX4) (T := TX4) (N := 6) hx hb hts iX4 tyX4 tyX4_ok nmX4 hown hK hP hD hS 0 rfl rfl 3 (by decide) (hts _ kw304) (fun _ h9 => h9) rfl (tyX4_ok 3 (by decide)) rfl rfl (Nat.le_of_ble_eq_true rfl) dX4_init_29 (fun H locs hP hD hS => ?_)
  have hP : va_P D vwCl [(h0, .inr (4, [.ref q1, .int 0, .ref q3, .int 0, .int 0, .int 0])), (q1, .inl (k2, 300, .inl (fun _ => 0))), (q3, .inl (k4, 300, .inl (fun _ => 0)))] H := hP
  have hD : va_D A [(h0, .inr (4, [.ref q1, .int 0, .ref q3, .int 0, .int 0, .int 0])), (q1, .inl (k2, 300, .inl (fun _ => 0))), (q3, .inl (k4, 300, .inl (fun _ => 0)))] := hD
  refine lv_aload_n hx hb dX4_init_32 rfl (lv_at hl 0 rfl) ?_
  refine lv_iconst (v := 0) hx hb dX4_init_33 (by decide) ?_
  refine va_put (D := D) (ci := 4) (v := .int 0) (ty := .int) (C := RX4) (T := TX4) (N := 6) hx hb hts iX4 tyX4 tyX4_ok nmX4 hown hK hP hD hS 0 rfl rfl 4 (by decide) (hts _ kw305) (fun _ h9 => h9) rfl (tyX4_ok 4 (by decide)) rfl rfl (Nat.le_of_ble_eq_true rfl) dX4_init_34 (fun H locs hP hD hS => ?_)
  have hP : va_P D vwCl [(h0, .inr (4, [.ref q1, .int 0, .ref q3, .int 0, .int 0, .int 0])), (q1, .inl (k2, 300, .inl (fun _ => 0))), (q3, .inl (k4, 300, .inl (fun _ => 0)))] H := hP
  have hD : va_D A [(h0, .inr (4, [.ref q1, .int 0, .ref q3, .int 0, .int 0, .int 0])), (q1, .inl (k2, 300, .inl (fun _ => 0))), (q3, .inl (k4, 300, .inl (fun _ => 0)))] := hD
  refine lv_aload_n hx hb dX4_init_37 rfl (lv_at hl 0 rfl) ?_
  refine lv_iconst (v := 0) hx hb dX4_init_38 (by decide) ?_
  refine va_put (D := D) (ci := 4) (v := .int 0) (ty := .int) (C := RX4) (T := TX4) (N := 6) hx hb hts iX4 tyX4 tyX4_ok nmX4 hown hK hP hD hS 0 rfl rfl 5 (by decide) (hts _ kw306) (fun _ h9 => h9) rfl (tyX4_ok 5 (by decide)) rfl rfl (Nat.le_of_ble_eq_true rfl) dX4_init_39 (fun H locs hP hD hS => ?_)
  have hP : va_P D vwCl [(h0, .inr (4, [.ref q1, .int 0, .ref q3, .int 0, .int 0, .int 0])), (q1, .inl (k2, 300, .inl (fun _ => 0))), (q3, .inl (k4, 300, .inl (fun _ => 0)))] H := hP
  have hD : va_D A [(h0, .inr (4, [.ref q1, .int 0, .ref q3, .int 0, .int 0, .int 0])), (q1, .inl (k2, 300, .inl (fun _ => 0))), (q3, .inl (k4, 300, .inl (fun _ => 0)))] := hD
  exact q_vret (q1, k2, q3, k4) hx hb hr hlocks hP hK hD hS [0, 1, 2] [0, 1] rfl rfl rfl dX4_init_42 (Nat.le_of_ble_eq_true rfl) (Nat.le_of_ble_eq_true rfl)
abbrev w_X0_init_1 (h0 : Nat) (a0 a1 : Int32) (u : Nat × Nat × Nat × Nat × Nat × Nat × Nat × Nat) : va_W := [(h0, .inr (0, [.ref u.1, .ref u.2.1, .int 0, .int 0, .int 0, .int 0, .int 0, .int 0, .int (-1), .int 0, .int 0, .int 0, .int 0, .int 0, .ref u.2.2.2.2.2.2.1])), (u.1, .inr (1, [.int a0, .int a1, .int 0, .int 0, .int 0, .int 0, .int 0, .int 0, .int 0])), (u.2.1, .inr (4, [.ref u.2.2.1, .int 0, .ref u.2.2.2.2.1, .int 0, .int 0, .int 0])), (u.2.2.1, .inl (u.2.2.2.1, 300, .inl (fun _ => 0))), (u.2.2.2.2.1, .inl (u.2.2.2.2.2.1, 300, .inl (fun _ => 0))), (u.2.2.2.2.2.2.1, .inl (u.2.2.2.2.2.2.2, 7000, .inl (fun _ => 0)))]
abbrev t_X0_init_1 (u : Nat × Nat × Nat × Nat × Nat × Nat × Nat × Nat) : List (ClassId × FieldType) := [(u.2.2.2.1, .int), (u.2.2.2.2.2.1, .int), (u.2.2.2.2.2.2.2, .int)]
abbrev Q_X0_init_1 (D : va_G) (h0 : Nat) (a0 a1 : Int32) (A : Nat → Prop) : Array Value → State → Outcome → State → Prop := QW (.returned none) D (w_X0_init_1 h0 a0 a1) t_X0_init_1 A
set_option maxHeartbeats 4000000 in
set_option maxRecDepth 100000 in
theorem c_X0_init_1 (l : Launch) (D : va_G) (h0 : Nat) (a0 a1 : Int32) (sz : Nat) : Met l yX0_init (.code yX0_init cX0_init 3 none :: wT) ({ frames := 2, cells := 5, slots := 7615, locals := 32 } : Room) (SP D [.ref h0, .int a0, .int a1] [(h0, .inr (0, [.null, .null, .int 0, .int 0, .int 0, .int 0, .int 0, .int 0, .int 0, .int 0, .int 0, .int 0, .int 0, .int 0, .null]))] [] sz) (Q_X0_init_1 D h0 a0 a1 (va_A [(h0, .inr (0, [.null, .null, .int 0, .int 0, .int 0, .int 0, .int 0, .int 0, .int 0, .int 0, .int 0, .int 0, .int 0, .int 0, .null]))] sz)) 5 7615 (va_A [(h0, .inr (0, [.null, .null, .int 0, .int 0, .int 0, .int 0, .int 0, .int 0, .int 0, .int 0, .int 0, .int 0, .int 0, .int 0, .null]))] sz) := by
  refine SP.start (Qf := Q_X0_init_1 D h0 a0 a1) (by decide) (Nat.le_of_ble_eq_true rfl) ?_
  intro p e s m below meth c ls A hx hb hr hml hown hts hlocks hname hA hP hK hD hE hl hS
  have hown : s.vm.findClass RX0 = some m.cls := hown
  have hl : lv_has ls 3 [(0, .ref h0), (1, .int a0), (2, .int a1)] := hl
  refine lv_aload_n hx hb dX0_init_0 rfl (lv_at hl 0 rfl) ?_
  refine W.objInit hx hb hown (hts _ kw293) (hts _ kw15) (hts _ kw16) rfl (by rw [hml]; exact hl.1) rfl dX0_init_1 (Nat.le_of_ble_eq_true rfl) (Nat.le_of_ble_eq_true rfl) ?_
  refine W.eq (g2 := F0 m 4 ls []) rfl ?_
  refine lv_aload_n hx hb dX0_init_4 rfl (lv_at hl 0 rfl) ?_
  refine va_new (ci := 1) (fs := [.int 0, .int 0, .int 0, .int 0, .int 0, .int 0, .int 0, .int 0, .int 0]) (C := RX1) (T := TX1) (N := 9) hx hb hts iX1 tyX1 tyX1_ok hown (hts _ kw294) (hts _ kw109) (hts _ kw110) hK hP hD hS hA rfl fsX1 (Nat.le_of_ble_eq_true rfl) (Nat.le_of_ble_eq_true rfl) dX0_init_5 (fun q1 H hP hD hS => ?_)
  have hP : va_P D vwCl [(h0, .inr (0, [.null, .null, .int 0, .int 0, .int 0, .int 0, .int 0, .int 0, .int 0, .int 0, .int 0, .int 0, .int 0, .int 0, .null])), (q1, .inr (1, [.int 0, .int 0, .int 0, .int 0, .int 0, .int 0, .int 0, .int 0, .int 0]))] H := hP
  have hD : va_D A [(h0, .inr (0, [.null, .null, .int 0, .int 0, .int 0, .int 0, .int 0, .int 0, .int 0, .int 0, .int 0, .int 0, .int 0, .int 0, .null])), (q1, .inr (1, [.int 0, .int 0, .int 0, .int 0, .int 0, .int 0, .int 0, .int 0, .int 0]))] := hD
  refine W.cs (cells' := 1) (slots' := 9) rfl rfl ?_
  refine lv_dup hx hb dX0_init_8 rfl ?_
  refine q_run (D := D) (w1 := w_X1_init_1 q1) (t1 := t_X1_init_1) (o := none) (ws := [(h0, .inr (0, [.null, .null, .int 0, .int 0, .int 0, .int 0, .int 0, .int 0, .int 0, .int 0, .int 0, .int 0, .int 0, .int 0, .null])), (q1, .inr (1, [.int 0, .int 0, .int 0, .int 0, .int 0, .int 0, .int 0, .int 0, .int 0]))]) (wc := [(q1, .inr (1, [.int 0, .int 0, .int 0, .int 0, .int 0, .int 0, .int 0, .int 0, .int 0]))]) (wr := [(h0, .inr (0, [.null, .null, .int 0, .int 0, .int 0, .int 0, .int 0, .int 0, .int 0, .int 0, .int 0, .int 0, .int 0, .int 0, .null]))]) (va_runIN (b := q1) (As := []) (rest := [.ref q1, .ref h0]) ⟨hx, hb, hml, hown, hts⟩ (c_X1_init_1 l D q1 H.size) ⟨va_cnB 0 hts (gT kw121) rfl rfl rfl (hE.1 _ nw295 rfl) (hts _ kw110) hd8 ⟨(Nat.le_of_ble_eq_true rfl), (Nat.le_of_ble_eq_true rfl)⟩, rfl, hts _ kw123⟩ (SP.pre hP hK hD hE [1] [] rfl rfl rfl) rfl rfl hl.1 rfl (lv_room (Nat.le_of_ble_eq_true rfl)) dX0_init_9 ⟨(Nat.le_of_ble_eq_true rfl), (Nat.le_of_ble_eq_true rfl)⟩) hP hK hD hS hA [1] [0] rfl rfl rfl (by decide) (fun u H locs hP hK hD hS => ?_)
  refine W.eq (g2 := F0 m 12 ls [.ref q1, .ref h0]) rfl ?_
  refine W.cs (cells' := 1) (slots' := 9) rfl rfl ?_
  have hP : va_P D vwCl [(h0, .inr (0, [.null, .null, .int 0, .int 0, .int 0, .int 0, .int 0, .int 0, .int 0, .int 0, .int 0, .int 0, .int 0, .int 0, .null])), (q1, .inr (1, [.int 0, .int 0, .int 0, .int 0, .int 0, .int 0, .int 0, .int 0, .int 0]))] H := hP
  have hD : va_D A [(h0, .inr (0, [.null, .null, .int 0, .int 0, .int 0, .int 0, .int 0, .int 0, .int 0, .int 0, .int 0, .int 0, .int 0, .int 0, .null])), (q1, .inr (1, [.int 0, .int 0, .int 0, .int 0, .int 0, .int 0, .int 0, .int 0, .int 0]))] := hD
  have hK : va_K D vwCl [] s := hK
  refine va_putF (D := D) (ci := 0) (v := .ref q1) (ty := .object "BalloonHouse$Craft") (C := RX0) (T := TX0) (N := 15) hx hb hts iX0 tyX0 tyX0_ok nmX0 hown hK hP hD hS 0 rfl rfl 0 (by decide) (hts _ kw296) (fun _ h9 => h9) rfl hname rfl (tyX0_ok 0 (by decide)) rfl rfl (Nat.le_of_ble_eq_true rfl) dX0_init_12 (fun H locs hP hD hS => ?_)
  have hP : va_P D vwCl [(h0, .inr (0, [.ref q1, .null, .int 0, .int 0, .int 0, .int 0, .int 0, .int 0, .int 0, .int 0, .int 0, .int 0, .int 0, .int 0, .null])), (q1, .inr (1, [.int 0, .int 0, .int 0, .int 0, .int 0, .int 0, .int 0, .int 0, .int 0]))] H := hP
  have hD : va_D A [(h0, .inr (0, [.ref q1, .null, .int 0, .int 0, .int 0, .int 0, .int 0, .int 0, .int 0, .int 0, .int 0, .int 0, .int 0, .int 0, .null])), (q1, .inr (1, [.int 0, .int 0, .int 0, .int 0, .int 0, .int 0, .int 0, .int 0, .int 0]))] := hD
  refine lv_aload_n hx hb dX0_init_15 rfl (lv_at hl 0 rfl) ?_
  refine va_new (ci := 4) (fs := [.null, .int 0, .null, .int 0, .int 0, .int 0]) (C := RX4) (T := TX4) (N := 6) hx hb hts iX4 tyX4 tyX4_ok hown (hts _ kw297) (hts _ kw298) (hts _ kw299) hK hP hD hS hA rfl fsX4 (Nat.le_of_ble_eq_true rfl) (Nat.le_of_ble_eq_true rfl) dX0_init_16 (fun q2 H hP hD hS => ?_)
  have hP : va_P D vwCl [(h0, .inr (0, [.ref q1, .null, .int 0, .int 0, .int 0, .int 0, .int 0, .int 0, .int 0, .int 0, .int 0, .int 0, .int 0, .int 0, .null])), (q1, .inr (1, [.int 0, .int 0, .int 0, .int 0, .int 0, .int 0, .int 0, .int 0, .int 0])), (q2, .inr (4, [.null, .int 0, .null, .int 0, .int 0, .int 0]))] H := hP
  have hD : va_D A [(h0, .inr (0, [.ref q1, .null, .int 0, .int 0, .int 0, .int 0, .int 0, .int 0, .int 0, .int 0, .int 0, .int 0, .int 0, .int 0, .null])), (q1, .inr (1, [.int 0, .int 0, .int 0, .int 0, .int 0, .int 0, .int 0, .int 0, .int 0])), (q2, .inr (4, [.null, .int 0, .null, .int 0, .int 0, .int 0]))] := hD
  refine W.cs (cells' := 2) (slots' := 15) rfl rfl ?_
  refine lv_dup hx hb dX0_init_19 rfl ?_
  refine q_run (D := D) (w1 := w_X4_init_1 q2) (t1 := t_X4_init_1) (o := none) (ws := [(h0, .inr (0, [.ref q1, .null, .int 0, .int 0, .int 0, .int 0, .int 0, .int 0, .int 0, .int 0, .int 0, .int 0, .int 0, .int 0, .null])), (q1, .inr (1, [.int 0, .int 0, .int 0, .int 0, .int 0, .int 0, .int 0, .int 0, .int 0])), (q2, .inr (4, [.null, .int 0, .null, .int 0, .int 0, .int 0]))]) (wc := [(q2, .inr (4, [.null, .int 0, .null, .int 0, .int 0, .int 0]))]) (wr := [(h0, .inr (0, [.ref q1, .null, .int 0, .int 0, .int 0, .int 0, .int 0, .int 0, .int 0, .int 0, .int 0, .int 0, .int 0, .int 0, .null])), (q1, .inr (1, [.int 0, .int 0, .int 0, .int 0, .int 0, .int 0, .int 0, .int 0, .int 0]))]) (va_runIN (b := q2) (As := []) (rest := [.ref q2, .ref h0]) ⟨hx, hb, hml, hown, hts⟩ (c_X4_init_1 l D q2 H.size) ⟨va_cnB 0 hts (gT kw307) rfl rfl rfl (hE.1 _ nw308 rfl) (hts _ kw299) hd26 ⟨(Nat.le_of_ble_eq_true rfl), (Nat.le_of_ble_eq_true rfl)⟩, rfl, hts _ kw309⟩ (SP.pre hP hK hD hE [2] [] rfl rfl rfl) rfl rfl hl.1 rfl (lv_room (Nat.le_of_ble_eq_true rfl)) dX0_init_20 ⟨(Nat.le_of_ble_eq_true rfl), (Nat.le_of_ble_eq_true rfl)⟩) hP hK hD hS hA [2] [0, 1] rfl rfl rfl (by decide) (fun u H locs hP hK hD hS => ?_)
  obtain ⟨q3, k4, q5, k6⟩ := u
  refine W.eq (g2 := F0 m 23 ls [.ref q2, .ref h0]) rfl ?_
  refine W.cs (cells' := 4) (slots' := 615) rfl rfl ?_
  have hP : va_P D vwCl [(h0, .inr (0, [.ref q1, .null, .int 0, .int 0, .int 0, .int 0, .int 0, .int 0, .int 0, .int 0, .int 0, .int 0, .int 0, .int 0, .null])), (q1, .inr (1, [.int 0, .int 0, .int 0, .int 0, .int 0, .int 0, .int 0, .int 0, .int 0])), (q2, .inr (4, [.ref q3, .int 0, .ref q5, .int 0, .int 0, .int 0])), (q3, .inl (k4, 300, .inl (fun _ => 0))), (q5, .inl (k6, 300, .inl (fun _ => 0)))] H := hP
  have hD : va_D A [(h0, .inr (0, [.ref q1, .null, .int 0, .int 0, .int 0, .int 0, .int 0, .int 0, .int 0, .int 0, .int 0, .int 0, .int 0, .int 0, .null])), (q1, .inr (1, [.int 0, .int 0, .int 0, .int 0, .int 0, .int 0, .int 0, .int 0, .int 0])), (q2, .inr (4, [.ref q3, .int 0, .ref q5, .int 0, .int 0, .int 0])), (q3, .inl (k4, 300, .inl (fun _ => 0))), (q5, .inl (k6, 300, .inl (fun _ => 0)))] := hD
  have hK : va_K D vwCl [(k4, .int), (k6, .int)] s := hK
  refine va_putF (D := D) (ci := 0) (v := .ref q2) (ty := .object "BalloonHouse$Orders") (C := RX0) (T := TX0) (N := 15) hx hb hts iX0 tyX0 tyX0_ok nmX0 hown hK hP hD hS 0 rfl rfl 1 (by decide) (hts _ kw310) (fun _ h9 => h9) rfl hname rfl (tyX0_ok 1 (by decide)) rfl rfl (Nat.le_of_ble_eq_true rfl) dX0_init_23 (fun H locs hP hD hS => ?_)
  have hP : va_P D vwCl [(h0, .inr (0, [.ref q1, .ref q2, .int 0, .int 0, .int 0, .int 0, .int 0, .int 0, .int 0, .int 0, .int 0, .int 0, .int 0, .int 0, .null])), (q1, .inr (1, [.int 0, .int 0, .int 0, .int 0, .int 0, .int 0, .int 0, .int 0, .int 0])), (q2, .inr (4, [.ref q3, .int 0, .ref q5, .int 0, .int 0, .int 0])), (q3, .inl (k4, 300, .inl (fun _ => 0))), (q5, .inl (k6, 300, .inl (fun _ => 0)))] H := hP
  have hD : va_D A [(h0, .inr (0, [.ref q1, .ref q2, .int 0, .int 0, .int 0, .int 0, .int 0, .int 0, .int 0, .int 0, .int 0, .int 0, .int 0, .int 0, .null])), (q1, .inr (1, [.int 0, .int 0, .int 0, .int 0, .int 0, .int 0, .int 0, .int 0, .int 0])), (q2, .inr (4, [.ref q3, .int 0, .ref q5, .int 0, .int 0, .int 0])), (q3, .inl (k4, 300, .inl (fun _ => 0))), (q5, .inl (k6, 300, .inl (fun _ => 0)))] := hD
  refine lv_aload_n hx hb dX0_init_26 rfl (lv_at hl 0 rfl) ?_
  refine lv_iconst (v := 0) hx hb dX0_init_27 (by decide) ?_
  refine va_put (D := D) (ci := 0) (v := .int 0) (ty := .int) (C := RX0) (T := TX0) (N := 15) hx hb hts iX0 tyX0 tyX0_ok nmX0 hown hK hP hD hS 0 rfl rfl 2 (by decide) (hts _ kw311) (fun _ h9 => h9) rfl (tyX0_ok 2 (by decide)) rfl rfl (Nat.le_of_ble_eq_true rfl) dX0_init_28 (fun H locs hP hD hS => ?_)
  have hP : va_P D vwCl [(h0, .inr (0, [.ref q1, .ref q2, .int 0, .int 0, .int 0, .int 0, .int 0, .int 0, .int 0, .int 0, .int 0, .int 0, .int 0, .int 0, .null])), (q1, .inr (1, [.int 0, .int 0, .int 0, .int 0, .int 0, .int 0, .int 0, .int 0, .int 0])), (q2, .inr (4, [.ref q3, .int 0, .ref q5, .int 0, .int 0, .int 0])), (q3, .inl (k4, 300, .inl (fun _ => 0))), (q5, .inl (k6, 300, .inl (fun _ => 0)))] H := hP
  have hD : va_D A [(h0, .inr (0, [.ref q1, .ref q2, .int 0, .int 0, .int 0, .int 0, .int 0, .int 0, .int 0, .int 0, .int 0, .int 0, .int 0, .int 0, .null])), (q1, .inr (1, [.int 0, .int 0, .int 0, .int 0, .int 0, .int 0, .int 0, .int 0, .int 0])), (q2, .inr (4, [.ref q3, .int 0, .ref q5, .int 0, .int 0, .int 0])), (q3, .inl (k4, 300, .inl (fun _ => 0))), (q5, .inl (k6, 300, .inl (fun _ => 0)))] := hD
  refine lv_aload_n hx hb dX0_init_31 rfl (lv_at hl 0 rfl) ?_
  refine lv_iconst (v := 0) hx hb dX0_init_32 (by decide) ?_
  refine va_put (D := D) (ci := 0) (v := .int 0) (ty := .int) (C := RX0) (T := TX0) (N := 15) hx hb hts iX0 tyX0 tyX0_ok nmX0 hown hK hP hD hS 0 rfl rfl 3 (by decide) (hts _ kw312) (fun _ h9 => h9) rfl (tyX0_ok 3 (by decide)) rfl rfl (Nat.le_of_ble_eq_true rfl) dX0_init_33 (fun H locs hP hD hS => ?_)
  have hP : va_P D vwCl [(h0, .inr (0, [.ref q1, .ref q2, .int 0, .int 0, .int 0, .int 0, .int 0, .int 0, .int 0, .int 0, .int 0, .int 0, .int 0, .int 0, .null])), (q1, .inr (1, [.int 0, .int 0, .int 0, .int 0, .int 0, .int 0, .int 0, .int 0, .int 0])), (q2, .inr (4, [.ref q3, .int 0, .ref q5, .int 0, .int 0, .int 0])), (q3, .inl (k4, 300, .inl (fun _ => 0))), (q5, .inl (k6, 300, .inl (fun _ => 0)))] H := hP
  have hD : va_D A [(h0, .inr (0, [.ref q1, .ref q2, .int 0, .int 0, .int 0, .int 0, .int 0, .int 0, .int 0, .int 0, .int 0, .int 0, .int 0, .int 0, .null])), (q1, .inr (1, [.int 0, .int 0, .int 0, .int 0, .int 0, .int 0, .int 0, .int 0, .int 0])), (q2, .inr (4, [.ref q3, .int 0, .ref q5, .int 0, .int 0, .int 0])), (q3, .inl (k4, 300, .inl (fun _ => 0))), (q5, .inl (k6, 300, .inl (fun _ => 0)))] := hD
  refine lv_aload_n hx hb dX0_init_36 rfl (lv_at hl 0 rfl) ?_
  refine lv_iconst (v := 0) hx hb dX0_init_37 (by decide) ?_
  refine va_put (D := D) (ci := 0) (v := .int 0) (ty := .int) (C := RX0) (T := TX0) (N := 15) hx hb hts iX0 tyX0 tyX0_ok nmX0 hown hK hP hD hS 0 rfl rfl 4 (by decide) (hts _ kw313) (fun _ h9 => h9) rfl (tyX0_ok 4 (by decide)) rfl rfl (Nat.le_of_ble_eq_true rfl) dX0_init_38 (fun H locs hP hD hS => ?_)
  have hP : va_P D vwCl [(h0, .inr (0, [.ref q1, .ref q2, .int 0, .int 0, .int 0, .int 0, .int 0, .int 0, .int 0, .int 0, .int 0, .int 0, .int 0, .int 0, .null])), (q1, .inr (1, [.int 0, .int 0, .int 0, .int 0, .int 0, .int 0, .int 0, .int 0, .int 0])), (q2, .inr (4, [.ref q3, .int 0, .ref q5, .int 0, .int 0, .int 0])), (q3, .inl (k4, 300, .inl (fun _ => 0))), (q5, .inl (k6, 300, .inl (fun _ => 0)))] H := hP
  have hD : va_D A [(h0, .inr (0, [.ref q1, .ref q2, .int 0, .int 0, .int 0, .int 0, .int 0, .int 0, .int 0, .int 0, .int 0, .int 0, .int 0, .int 0, .null])), (q1, .inr (1, [.int 0, .int 0, .int 0, .int 0, .int 0, .int 0, .int 0, .int 0, .int 0])), (q2, .inr (4, [.ref q3, .int 0, .ref q5, .int 0, .int 0, .int 0])), (q3, .inl (k4, 300, .inl (fun _ => 0))), (q5, .inl (k6, 300, .inl (fun _ => 0)))] := hD
  refine lv_aload_n hx hb dX0_init_41 rfl (lv_at hl 0 rfl) ?_
  refine lv_iconst (v := 0) hx hb dX0_init_42 (by decide) ?_
  refine va_put (D := D) (ci := 0) (v := .int 0) (ty := .int) (C := RX0) (T := TX0) (N := 15) hx hb hts iX0 tyX0 tyX0_ok nmX0 hown hK hP hD hS 0 rfl rfl 5 (by decide) (hts _ kw314) (fun _ h9 => h9) rfl (tyX0_ok 5 (by decide)) rfl rfl (Nat.le_of_ble_eq_true rfl) dX0_init_43 (fun H locs hP hD hS => ?_)
  have hP : va_P D vwCl [(h0, .inr (0, [.ref q1, .ref q2, .int 0, .int 0, .int 0, .int 0, .int 0, .int 0, .int 0, .int 0, .int 0, .int 0, .int 0, .int 0, .null])), (q1, .inr (1, [.int 0, .int 0, .int 0, .int 0, .int 0, .int 0, .int 0, .int 0, .int 0])), (q2, .inr (4, [.ref q3, .int 0, .ref q5, .int 0, .int 0, .int 0])), (q3, .inl (k4, 300, .inl (fun _ => 0))), (q5, .inl (k6, 300, .inl (fun _ => 0)))] H := hP
  have hD : va_D A [(h0, .inr (0, [.ref q1, .ref q2, .int 0, .int 0, .int 0, .int 0, .int 0, .int 0, .int 0, .int 0, .int 0, .int 0, .int 0, .int 0, .null])), (q1, .inr (1, [.int 0, .int 0, .int 0, .int 0, .int 0, .int 0, .int 0, .int 0, .int 0])), (q2, .inr (4, [.ref q3, .int 0, .ref q5, .int 0, .int 0, .int 0])), (q3, .inl (k4, 300, .inl (fun _ => 0))), (q5, .inl (k6, 300, .inl (fun _ => 0)))] := hD
  refine lv_aload_n hx hb dX0_init_46 rfl (lv_at hl 0 rfl) ?_
  refine lv_iconst (v := 0) hx hb dX0_init_47 (by decide) ?_
  refine va_put (D := D) (ci := 0) (v := .int 0) (ty := .boolean) (C := RX0) (T := TX0) (N := 15) hx hb hts iX0 tyX0 tyX0_ok nmX0 hown hK hP hD hS 0 rfl rfl 6 (by decide) (hts _ kw315) (fun _ h9 => h9) rfl (tyX0_ok 6 (by decide)) rfl rfl (Nat.le_of_ble_eq_true rfl) dX0_init_48 (fun H locs hP hD hS => ?_)
  have hP : va_P D vwCl [(h0, .inr (0, [.ref q1, .ref q2, .int 0, .int 0, .int 0, .int 0, .int 0, .int 0, .int 0, .int 0, .int 0, .int 0, .int 0, .int 0, .null])), (q1, .inr (1, [.int 0, .int 0, .int 0, .int 0, .int 0, .int 0, .int 0, .int 0, .int 0])), (q2, .inr (4, [.ref q3, .int 0, .ref q5, .int 0, .int 0, .int 0])), (q3, .inl (k4, 300, .inl (fun _ => 0))), (q5, .inl (k6, 300, .inl (fun _ => 0)))] H := hP
  have hD : va_D A [(h0, .inr (0, [.ref q1, .ref q2, .int 0, .int 0, .int 0, .int 0, .int 0, .int 0, .int 0, .int 0, .int 0, .int 0, .int 0, .int 0, .null])), (q1, .inr (1, [.int 0, .int 0, .int 0, .int 0, .int 0, .int 0, .int 0, .int 0, .int 0])), (q2, .inr (4, [.ref q3, .int 0, .ref q5, .int 0, .int 0, .int 0])), (q3, .inl (k4, 300, .inl (fun _ => 0))), (q5, .inl (k6, 300, .inl (fun _ => 0)))] := hD
  refine lv_aload_n hx hb dX0_init_51 rfl (lv_at hl 0 rfl) ?_
  refine lv_iconst (v := 0) hx hb dX0_init_52 (by decide) ?_
  refine va_put (D := D) (ci := 0) (v := .int 0) (ty := .int) (C := RX0) (T := TX0) (N := 15) hx hb hts iX0 tyX0 tyX0_ok nmX0 hown hK hP hD hS 0 rfl rfl 7 (by decide) (hts _ kw316) (fun _ h9 => h9) rfl (tyX0_ok 7 (by decide)) rfl rfl (Nat.le_of_ble_eq_true rfl) dX0_init_53 (fun H locs hP hD hS => ?_)
  have hP : va_P D vwCl [(h0, .inr (0, [.ref q1, .ref q2, .int 0, .int 0, .int 0, .int 0, .int 0, .int 0, .int 0, .int 0, .int 0, .int 0, .int 0, .int 0, .null])), (q1, .inr (1, [.int 0, .int 0, .int 0, .int 0, .int 0, .int 0, .int 0, .int 0, .int 0])), (q2, .inr (4, [.ref q3, .int 0, .ref q5, .int 0, .int 0, .int 0])), (q3, .inl (k4, 300, .inl (fun _ => 0))), (q5, .inl (k6, 300, .inl (fun _ => 0)))] H := hP
  have hD : va_D A [(h0, .inr (0, [.ref q1, .ref q2, .int 0, .int 0, .int 0, .int 0, .int 0, .int 0, .int 0, .int 0, .int 0, .int 0, .int 0, .int 0, .null])), (q1, .inr (1, [.int 0, .int 0, .int 0, .int 0, .int 0, .int 0, .int 0, .int 0, .int 0])), (q2, .inr (4, [.ref q3, .int 0, .ref q5, .int 0, .int 0, .int 0])), (q3, .inl (k4, 300, .inl (fun _ => 0))), (q5, .inl (k6, 300, .inl (fun _ => 0)))] := hD
  refine lv_aload_n hx hb dX0_init_56 rfl (lv_at hl 0 rfl) ?_
  refine lv_iconst (v := (-1)) hx hb dX0_init_57 (by decide) ?_
  refine va_put (D := D) (ci := 0) (v := .int (-1)) (ty := .int) (C := RX0) (T := TX0) (N := 15) hx hb hts iX0 tyX0 tyX0_ok nmX0 hown hK hP hD hS 0 rfl rfl 8 (by decide) (hts _ kw317) (fun _ h9 => h9) rfl (tyX0_ok 8 (by decide)) rfl rfl (Nat.le_of_ble_eq_true rfl) dX0_init_58 (fun H locs hP hD hS => ?_)
  have hP : va_P D vwCl [(h0, .inr (0, [.ref q1, .ref q2, .int 0, .int 0, .int 0, .int 0, .int 0, .int 0, .int (-1), .int 0, .int 0, .int 0, .int 0, .int 0, .null])), (q1, .inr (1, [.int 0, .int 0, .int 0, .int 0, .int 0, .int 0, .int 0, .int 0, .int 0])), (q2, .inr (4, [.ref q3, .int 0, .ref q5, .int 0, .int 0, .int 0])), (q3, .inl (k4, 300, .inl (fun _ => 0))), (q5, .inl (k6, 300, .inl (fun _ => 0)))] H := hP
  have hD : va_D A [(h0, .inr (0, [.ref q1, .ref q2, .int 0, .int 0, .int 0, .int 0, .int 0, .int 0, .int (-1), .int 0, .int 0, .int 0, .int 0, .int 0, .null])), (q1, .inr (1, [.int 0, .int 0, .int 0, .int 0, .int 0, .int 0, .int 0, .int 0, .int 0])), (q2, .inr (4, [.ref q3, .int 0, .ref q5, .int 0, .int 0, .int 0])), (q3, .inl (k4, 300, .inl (fun _ => 0))), (q5, .inl (k6, 300, .inl (fun _ => 0)))] := hD
  refine lv_aload_n hx hb dX0_init_61 rfl (lv_at hl 0 rfl) ?_
  refine lv_iconst (v := 0) hx hb dX0_init_62 (by decide) ?_
  refine va_put (D := D) (ci := 0) (v := .int 0) (ty := .int) (C := RX0) (T := TX0) (N := 15) hx hb hts iX0 tyX0 tyX0_ok nmX0 hown hK hP hD hS 0 rfl rfl 9 (by decide) (hts _ kw318) (fun _ h9 => h9) rfl (tyX0_ok 9 (by decide)) rfl rfl (Nat.le_of_ble_eq_true rfl) dX0_init_63 (fun H locs hP hD hS => ?_)
  have hP : va_P D vwCl [(h0, .inr (0, [.ref q1, .ref q2, .int 0, .int 0, .int 0, .int 0, .int 0, .int 0, .int (-1), .int 0, .int 0, .int 0, .int 0, .int 0, .null])), (q1, .inr (1, [.int 0, .int 0, .int 0, .int 0, .int 0, .int 0, .int 0, .int 0, .int 0])), (q2, .inr (4, [.ref q3, .int 0, .ref q5, .int 0, .int 0, .int 0])), (q3, .inl (k4, 300, .inl (fun _ => 0))), (q5, .inl (k6, 300, .inl (fun _ => 0)))] H := hP
  have hD : va_D A [(h0, .inr (0, [.ref q1, .ref q2, .int 0, .int 0, .int 0, .int 0, .int 0, .int 0, .int (-1), .int 0, .int 0, .int 0, .int 0, .int 0, .null])), (q1, .inr (1, [.int 0, .int 0, .int 0, .int 0, .int 0, .int 0, .int 0, .int 0, .int 0])), (q2, .inr (4, [.ref q3, .int 0, .ref q5, .int 0, .int 0, .int 0])), (q3, .inl (k4, 300, .inl (fun _ => 0))), (q5, .inl (k6, 300, .inl (fun _ => 0)))] := hD
  refine lv_aload_n hx hb dX0_init_66 rfl (lv_at hl 0 rfl) ?_
  refine lv_iconst (v := 0) hx hb dX0_init_67 (by decide) ?_
  refine va_put (D := D) (ci := 0) (v := .int 0) (ty := .int) (C := RX0) (T := TX0) (N := 15) hx hb hts iX0 tyX0 tyX0_ok nmX0 hown hK hP hD hS 0 rfl rfl 10 (by decide) (hts _ kw319) (fun _ h9 => h9) rfl (tyX0_ok 10 (by decide)) rfl rfl (Nat.le_of_ble_eq_true rfl) dX0_init_68 (fun H locs hP hD hS => ?_)
  have hP : va_P D vwCl [(h0, .inr (0, [.ref q1, .ref q2, .int 0, .int 0, .int 0, .int 0, .int 0, .int 0, .int (-1), .int 0, .int 0, .int 0, .int 0, .int 0, .null])), (q1, .inr (1, [.int 0, .int 0, .int 0, .int 0, .int 0, .int 0, .int 0, .int 0, .int 0])), (q2, .inr (4, [.ref q3, .int 0, .ref q5, .int 0, .int 0, .int 0])), (q3, .inl (k4, 300, .inl (fun _ => 0))), (q5, .inl (k6, 300, .inl (fun _ => 0)))] H := hP
  have hD : va_D A [(h0, .inr (0, [.ref q1, .ref q2, .int 0, .int 0, .int 0, .int 0, .int 0, .int 0, .int (-1), .int 0, .int 0, .int 0, .int 0, .int 0, .null])), (q1, .inr (1, [.int 0, .int 0, .int 0, .int 0, .int 0, .int 0, .int 0, .int 0, .int 0])), (q2, .inr (4, [.ref q3, .int 0, .ref q5, .int 0, .int 0, .int 0])), (q3, .inl (k4, 300, .inl (fun _ => 0))), (q5, .inl (k6, 300, .inl (fun _ => 0)))] := hD
  refine lv_aload_n hx hb dX0_init_71 rfl (lv_at hl 0 rfl) ?_
  refine lv_iconst (v := 0) hx hb dX0_init_72 (by decide) ?_
  refine va_put (D := D) (ci := 0) (v := .int 0) (ty := .int) (C := RX0) (T := TX0) (N := 15) hx hb hts iX0 tyX0 tyX0_ok nmX0 hown hK hP hD hS 0 rfl rfl 11 (by decide) (hts _ kw320) (fun _ h9 => h9) rfl (tyX0_ok 11 (by decide)) rfl rfl (Nat.le_of_ble_eq_true rfl) dX0_init_73 (fun H locs hP hD hS => ?_)
  have hP : va_P D vwCl [(h0, .inr (0, [.ref q1, .ref q2, .int 0, .int 0, .int 0, .int 0, .int 0, .int 0, .int (-1), .int 0, .int 0, .int 0, .int 0, .int 0, .null])), (q1, .inr (1, [.int 0, .int 0, .int 0, .int 0, .int 0, .int 0, .int 0, .int 0, .int 0])), (q2, .inr (4, [.ref q3, .int 0, .ref q5, .int 0, .int 0, .int 0])), (q3, .inl (k4, 300, .inl (fun _ => 0))), (q5, .inl (k6, 300, .inl (fun _ => 0)))] H := hP
  have hD : va_D A [(h0, .inr (0, [.ref q1, .ref q2, .int 0, .int 0, .int 0, .int 0, .int 0, .int 0, .int (-1), .int 0, .int 0, .int 0, .int 0, .int 0, .null])), (q1, .inr (1, [.int 0, .int 0, .int 0, .int 0, .int 0, .int 0, .int 0, .int 0, .int 0])), (q2, .inr (4, [.ref q3, .int 0, .ref q5, .int 0, .int 0, .int 0])), (q3, .inl (k4, 300, .inl (fun _ => 0))), (q5, .inl (k6, 300, .inl (fun _ => 0)))] := hD
  refine lv_aload_n hx hb dX0_init_76 rfl (lv_at hl 0 rfl) ?_
  refine lv_iconst (v := 0) hx hb dX0_init_77 (by decide) ?_
  refine va_put (D := D) (ci := 0) (v := .int 0) (ty := .int) (C := RX0) (T := TX0) (N := 15) hx hb hts iX0 tyX0 tyX0_ok nmX0 hown hK hP hD hS 0 rfl rfl 12 (by decide) (hts _ kw321) (fun _ h9 => h9) rfl (tyX0_ok 12 (by decide)) rfl rfl (Nat.le_of_ble_eq_true rfl) dX0_init_78 (fun H locs hP hD hS => ?_)
  have hP : va_P D vwCl [(h0, .inr (0, [.ref q1, .ref q2, .int 0, .int 0, .int 0, .int 0, .int 0, .int 0, .int (-1), .int 0, .int 0, .int 0, .int 0, .int 0, .null])), (q1, .inr (1, [.int 0, .int 0, .int 0, .int 0, .int 0, .int 0, .int 0, .int 0, .int 0])), (q2, .inr (4, [.ref q3, .int 0, .ref q5, .int 0, .int 0, .int 0])), (q3, .inl (k4, 300, .inl (fun _ => 0))), (q5, .inl (k6, 300, .inl (fun _ => 0)))] H := hP
  have hD : va_D A [(h0, .inr (0, [.ref q1, .ref q2, .int 0, .int 0, .int 0, .int 0, .int 0, .int 0, .int (-1), .int 0, .int 0, .int 0, .int 0, .int 0, .null])), (q1, .inr (1, [.int 0, .int 0, .int 0, .int 0, .int 0, .int 0, .int 0, .int 0, .int 0])), (q2, .inr (4, [.ref q3, .int 0, .ref q5, .int 0, .int 0, .int 0])), (q3, .inl (k4, 300, .inl (fun _ => 0))), (q5, .inl (k6, 300, .inl (fun _ => 0)))] := hD
  refine lv_aload_n hx hb dX0_init_81 rfl (lv_at hl 0 rfl) ?_
  refine lv_iconst (v := 0) hx hb dX0_init_82 (by decide) ?_
  refine va_put (D := D) (ci := 0) (v := .int 0) (ty := .int) (C := RX0) (T := TX0) (N := 15) hx hb hts iX0 tyX0 tyX0_ok nmX0 hown hK hP hD hS 0 rfl rfl 13 (by decide) (hts _ kw322) (fun _ h9 => h9) rfl (tyX0_ok 13 (by decide)) rfl rfl (Nat.le_of_ble_eq_true rfl) dX0_init_83 (fun H locs hP hD hS => ?_)
  have hP : va_P D vwCl [(h0, .inr (0, [.ref q1, .ref q2, .int 0, .int 0, .int 0, .int 0, .int 0, .int 0, .int (-1), .int 0, .int 0, .int 0, .int 0, .int 0, .null])), (q1, .inr (1, [.int 0, .int 0, .int 0, .int 0, .int 0, .int 0, .int 0, .int 0, .int 0])), (q2, .inr (4, [.ref q3, .int 0, .ref q5, .int 0, .int 0, .int 0])), (q3, .inl (k4, 300, .inl (fun _ => 0))), (q5, .inl (k6, 300, .inl (fun _ => 0)))] H := hP
  have hD : va_D A [(h0, .inr (0, [.ref q1, .ref q2, .int 0, .int 0, .int 0, .int 0, .int 0, .int 0, .int (-1), .int 0, .int 0, .int 0, .int 0, .int 0, .null])), (q1, .inr (1, [.int 0, .int 0, .int 0, .int 0, .int 0, .int 0, .int 0, .int 0, .int 0])), (q2, .inr (4, [.ref q3, .int 0, .ref q5, .int 0, .int 0, .int 0])), (q3, .inl (k4, 300, .inl (fun _ => 0))), (q5, .inl (k6, 300, .inl (fun _ => 0)))] := hD
  refine lv_aload_n hx hb dX0_init_86 rfl (lv_at hl 0 rfl) ?_
  refine lv_sipush (v := 7000) hx hb dX0_init_87 (by decide +kernel) ?_
  refine va_newa (D := D) (atype := .int) (a0 := (7000, .inl (fun _ => 0))) (N' := 7000) hx hb (hts _ kw22) rfl hK hP hD hS hA (fun _ => rfl) (by decide +kernel) (by decide +kernel) (Nat.le_of_ble_eq_true rfl) (Nat.le_of_ble_eq_true rfl) (Nat.le_of_ble_eq_true rfl) dX0_init_90 (fun q7 k8 H hK hP hD hS => ?_)
  have hP : va_P D vwCl [(h0, .inr (0, [.ref q1, .ref q2, .int 0, .int 0, .int 0, .int 0, .int 0, .int 0, .int (-1), .int 0, .int 0, .int 0, .int 0, .int 0, .null])), (q1, .inr (1, [.int 0, .int 0, .int 0, .int 0, .int 0, .int 0, .int 0, .int 0, .int 0])), (q2, .inr (4, [.ref q3, .int 0, .ref q5, .int 0, .int 0, .int 0])), (q3, .inl (k4, 300, .inl (fun _ => 0))), (q5, .inl (k6, 300, .inl (fun _ => 0))), (q7, .inl (k8, 7000, .inl (fun _ => 0)))] H := hP
  have hD : va_D A [(h0, .inr (0, [.ref q1, .ref q2, .int 0, .int 0, .int 0, .int 0, .int 0, .int 0, .int (-1), .int 0, .int 0, .int 0, .int 0, .int 0, .null])), (q1, .inr (1, [.int 0, .int 0, .int 0, .int 0, .int 0, .int 0, .int 0, .int 0, .int 0])), (q2, .inr (4, [.ref q3, .int 0, .ref q5, .int 0, .int 0, .int 0])), (q3, .inl (k4, 300, .inl (fun _ => 0))), (q5, .inl (k6, 300, .inl (fun _ => 0))), (q7, .inl (k8, 7000, .inl (fun _ => 0)))] := hD
  have hK : va_K D vwCl [(k4, .int), (k6, .int), (k8, .int)] s := hK
  refine W.cs (cells' := 5) (slots' := 7615) rfl rfl ?_
  refine va_putF (D := D) (ci := 0) (v := .ref q7) (ty := .array .int) (C := RX0) (T := TX0) (N := 15) hx hb hts iX0 tyX0 tyX0_ok nmX0 hown hK hP hD hS 0 rfl rfl 14 (by decide) (hts _ kw323) (fun _ h9 => h9) rfl hname rfl (tyX0_ok 14 (by decide)) rfl rfl (Nat.le_of_ble_eq_true rfl) dX0_init_92 (fun H locs hP hD hS => ?_)
  have hP : va_P D vwCl [(h0, .inr (0, [.ref q1, .ref q2, .int 0, .int 0, .int 0, .int 0, .int 0, .int 0, .int (-1), .int 0, .int 0, .int 0, .int 0, .int 0, .ref q7])), (q1, .inr (1, [.int 0, .int 0, .int 0, .int 0, .int 0, .int 0, .int 0, .int 0, .int 0])), (q2, .inr (4, [.ref q3, .int 0, .ref q5, .int 0, .int 0, .int 0])), (q3, .inl (k4, 300, .inl (fun _ => 0))), (q5, .inl (k6, 300, .inl (fun _ => 0))), (q7, .inl (k8, 7000, .inl (fun _ => 0)))] H := hP
  have hD : va_D A [(h0, .inr (0, [.ref q1, .ref q2, .int 0, .int 0, .int 0, .int 0, .int 0, .int 0, .int (-1), .int 0, .int 0, .int 0, .int 0, .int 0, .ref q7])), (q1, .inr (1, [.int 0, .int 0, .int 0, .int 0, .int 0, .int 0, .int 0, .int 0, .int 0])), (q2, .inr (4, [.ref q3, .int 0, .ref q5, .int 0, .int 0, .int 0])), (q3, .inl (k4, 300, .inl (fun _ => 0))), (q5, .inl (k6, 300, .inl (fun _ => 0))), (q7, .inl (k8, 7000, .inl (fun _ => 0)))] := hD
  refine lv_aload_n hx hb dX0_init_95 rfl (lv_at hl 0 rfl) ?_
  refine va_get (D := D) (ci := 0) (v := .ref q1) (C := RX0) (T := TX0) (N := 15) hx hb hts iX0 hown hK hP 0 rfl rfl 0 (by decide) (hts _ kw296) (fun _ h9 => h9) rfl dX0_init_96 ?_
  refine lv_iload_n hx hb dX0_init_99 rfl (lv_at hl 1 rfl) ?_
  refine va_put (D := D) (ci := 1) (v := .int a0) (ty := .int) (C := RX1) (T := TX1) (N := 9) hx hb hts iX1 tyX1 tyX1_ok nmX1 hown hK hP hD hS 1 rfl rfl 0 (by decide) (hts _ kw324) (fun _ h9 => h9) rfl (tyX1_ok 0 (by decide)) rfl rfl (Nat.le_of_ble_eq_true rfl) dX0_init_100 (fun H locs hP hD hS => ?_)
  have hP : va_P D vwCl [(h0, .inr (0, [.ref q1, .ref q2, .int 0, .int 0, .int 0, .int 0, .int 0, .int 0, .int (-1), .int 0, .int 0, .int 0, .int 0, .int 0, .ref q7])), (q1, .inr (1, [.int a0, .int 0, .int 0, .int 0, .int 0, .int 0, .int 0, .int 0, .int 0])), (q2, .inr (4, [.ref q3, .int 0, .ref q5, .int 0, .int 0, .int 0])), (q3, .inl (k4, 300, .inl (fun _ => 0))), (q5, .inl (k6, 300, .inl (fun _ => 0))), (q7, .inl (k8, 7000, .inl (fun _ => 0)))] H := hP
  have hD : va_D A [(h0, .inr (0, [.ref q1, .ref q2, .int 0, .int 0, .int 0, .int 0, .int 0, .int 0, .int (-1), .int 0, .int 0, .int 0, .int 0, .int 0, .ref q7])), (q1, .inr (1, [.int a0, .int 0, .int 0, .int 0, .int 0, .int 0, .int 0, .int 0, .int 0])), (q2, .inr (4, [.ref q3, .int 0, .ref q5, .int 0, .int 0, .int 0])), (q3, .inl (k4, 300, .inl (fun _ => 0))), (q5, .inl (k6, 300, .inl (fun _ => 0))), (q7, .inl (k8, 7000, .inl (fun _ => 0)))] := hD
  refine lv_aload_n hx hb dX0_init_103 rfl (lv_at hl 0 rfl) ?_
  refine va_get (D := D) (ci := 0) (v := .ref q1) (C := RX0) (T := TX0) (N := 15) hx hb hts iX0 hown hK hP 0 rfl rfl 0 (by decide) (hts _ kw296) (fun _ h9 => h9) rfl dX0_init_104 ?_
  refine lv_iload_n hx hb dX0_init_107 rfl (lv_at hl 2 rfl) ?_
  refine va_put (D := D) (ci := 1) (v := .int a1) (ty := .int) (C := RX1) (T := TX1) (N := 9) hx hb hts iX1 tyX1 tyX1_ok nmX1 hown hK hP hD hS 1 rfl rfl 1 (by decide) (hts _ kw325) (fun _ h9 => h9) rfl (tyX1_ok 1 (by decide)) rfl rfl (Nat.le_of_ble_eq_true rfl) dX0_init_108 (fun H locs hP hD hS => ?_)
  have hP : va_P D vwCl [(h0, .inr (0, [.ref q1, .ref q2, .int 0, .int 0, .int 0, .int 0, .int 0, .int 0, .int (-1), .int 0, .int 0, .int 0, .int 0, .int 0, .ref q7])), (q1, .inr (1, [.int a0, .int a1, .int 0, .int 0, .int 0, .int 0, .int 0, .int 0, .int 0])), (q2, .inr (4, [.ref q3, .int 0, .ref q5, .int 0, .int 0, .int 0])), (q3, .inl (k4, 300, .inl (fun _ => 0))), (q5, .inl (k6, 300, .inl (fun _ => 0))), (q7, .inl (k8, 7000, .inl (fun _ => 0)))] H := hP
  have hD : va_D A [(h0, .inr (0, [.ref q1, .ref q2, .int 0, .int 0, .int 0, .int 0, .int 0, .int 0, .int (-1), .int 0, .int 0, .int 0, .int 0, .int 0, .ref q7])), (q1, .inr (1, [.int a0, .int a1, .int 0, .int 0, .int 0, .int 0, .int 0, .int 0, .int 0])), (q2, .inr (4, [.ref q3, .int 0, .ref q5, .int 0, .int 0, .int 0])), (q3, .inl (k4, 300, .inl (fun _ => 0))), (q5, .inl (k6, 300, .inl (fun _ => 0))), (q7, .inl (k8, 7000, .inl (fun _ => 0)))] := hD
  exact q_vret (q1, q2, q3, k4, q5, k6, q7, k8) hx hb hr hlocks hP hK hD hS [0, 1, 2, 3, 4, 5] [0, 1, 2] rfl rfl rfl dX0_init_111 (Nat.le_of_ble_eq_true rfl) (Nat.le_of_ble_eq_true rfl)
abbrev w_X11_balloon_1 (h0 h1 h2 h3 h4 h5 h6 h7 h8 h9 h10 : Nat) (k0 : ClassId) (a0 a1 : Int32) (u : Nat × Nat × Nat × Nat × Nat × Nat × Nat × Nat × Nat) : va_W := [(h0, .inr (11, [.int 0, .ref h2, .ref h3, .ref h1, .int 1, .ref h4, .int 0, .ref h5, .ref h6, .ref h7, .ref h8, .int 0, .ref h9, .int (-1), .ref h10])), (h1, .inl (k0, 6, .inr (.inr (.inr (.inr (va_up (fun _ => none) 0 (some u.1))))))), (u.1, .inr (0, [.ref u.2.1, .ref u.2.2.1, .int 0, .int 0, .int 0, .int 0, .int 0, .int 0, .int (-1), .int 0, .int 0, .int 0, .int 0, .int 0, .ref u.2.2.2.2.2.2.2.1])), (u.2.1, .inr (1, [.int a0, .int a1, .int 0, .int 0, .int 0, .int 0, .int 0, .int 0, .int 0])), (u.2.2.1, .inr (4, [.ref u.2.2.2.1, .int 0, .ref u.2.2.2.2.2.1, .int 0, .int 0, .int 0])), (u.2.2.2.1, .inl (u.2.2.2.2.1, 300, .inl (fun _ => 0))), (u.2.2.2.2.2.1, .inl (u.2.2.2.2.2.2.1, 300, .inl (fun _ => 0))), (u.2.2.2.2.2.2.2.1, .inl (u.2.2.2.2.2.2.2.2, 7000, .inl (fun _ => 0)))]
abbrev t_X11_balloon_1 (u : Nat × Nat × Nat × Nat × Nat × Nat × Nat × Nat × Nat) : List (ClassId × FieldType) := [(u.2.2.2.2.1, .int), (u.2.2.2.2.2.2.1, .int), (u.2.2.2.2.2.2.2.2, .int)]
abbrev Q_X11_balloon_1 (D : va_G) (h0 h1 h2 h3 h4 h5 h6 h7 h8 h9 h10 : Nat) (k0 : ClassId) (a0 a1 : Int32) (A : Nat → Prop) : Array Value → State → Outcome → State → Prop := QW (.returned (some (.int 0))) D (w_X11_balloon_1 h0 h1 h2 h3 h4 h5 h6 h7 h8 h9 h10 k0 a0 a1) t_X11_balloon_1 A
set_option maxHeartbeats 4000000 in
set_option maxRecDepth 100000 in
theorem c_X11_balloon_1 (l : Launch) (D : va_G) (h0 h1 h2 h3 h4 h5 h6 h7 h8 h9 h10 : Nat) (k0 : ClassId) (a0 a1 : Int32) (sz : Nat) (v0 : pIn a0 100 5000) (v1 : pIn a1 10 1000) : Met l yX11_balloon (.code yX11_balloon cX11_balloon 3 (some .int) :: wT) ({ frames := 3, cells := 6, slots := 7630, locals := 54 } : Room) (SP D [.ref h0, .int a0, .int a1] [(h0, .inr (11, [.int 0, .ref h2, .ref h3, .ref h1, .int 0, .ref h4, .int 0, .ref h5, .ref h6, .ref h7, .ref h8, .int 0, .ref h9, .int (-1), .ref h10])), (h1, .inl (k0, 6, .inr (.inr (.inr (.inr (fun _ => none))))))] [(k0, .object "BalloonHouse$Balloon")] sz) (Q_X11_balloon_1 D h0 h1 h2 h3 h4 h5 h6 h7 h8 h9 h10 k0 a0 a1 (va_A [(h0, .inr (11, [.int 0, .ref h2, .ref h3, .ref h1, .int 0, .ref h4, .int 0, .ref h5, .ref h6, .ref h7, .ref h8, .int 0, .ref h9, .int (-1), .ref h10])), (h1, .inl (k0, 6, .inr (.inr (.inr (.inr (fun _ => none))))))] sz)) 6 7630 (va_A [(h0, .inr (11, [.int 0, .ref h2, .ref h3, .ref h1, .int 0, .ref h4, .int 0, .ref h5, .ref h6, .ref h7, .ref h8, .int 0, .ref h9, .int (-1), .ref h10])), (h1, .inl (k0, 6, .inr (.inr (.inr (.inr (fun _ => none))))))] sz) := by
  refine SP.start (Qf := Q_X11_balloon_1 D h0 h1 h2 h3 h4 h5 h6 h7 h8 h9 h10 k0 a0 a1) (by decide) (Nat.le_of_ble_eq_true rfl) ?_
  intro p e s m below meth c ls A hx hb hr hml hown hts hlocks hname hA hP hK hD hE hl hS
  have hown : s.vm.findClass RX11 = some m.cls := hown
  have hl : lv_has ls 3 [(0, .ref h0), (1, .int a0), (2, .int a1)] := hl
  refine lv_iload_n hx hb dX11_balloon_0 rfl (lv_at hl 1 rfl) ?_
  refine lv_bipush (v := 100) hx hb dX11_balloon_1 (by decide) ?_
  refine lv_sipush (v := 5000) hx hb dX11_balloon_3 (by decide +kernel) ?_
  refine q_runP (va_runS (As := [.int a0, .int 100, .int 5000]) (rest := []) ⟨hx, hb, hml, hown, hts⟩ (c_isWithin l a0 100 5000) (cwS 3 hts (gTS kw4 kw5 kw6 kw3) rfl rfl rfl hd1 ⟨(Nat.le_of_ble_eq_true rfl), (Nat.le_of_ble_eq_true rfl)⟩) preEq rfl rfl hl.1 rfl (lv_room (Nat.le_of_ble_eq_true rfl)) dX11_balloon_6 ⟨(Nat.le_of_ble_eq_true rfl), (Nat.le_of_ble_eq_true rfl)⟩) ?_
  refine lv_if_eq (tgt := 28) hx hb dX11_balloon_9 (by decide) (fun c9 => absurd v0 (bz_n c9)) (fun _ => ?_)
  refine lv_iload_n hx hb dX11_balloon_12 rfl (lv_at hl 2 rfl) ?_
  refine lv_bipush (v := 10) hx hb dX11_balloon_13 (by decide) ?_
  refine lv_sipush (v := 1000) hx hb dX11_balloon_15 (by decide +kernel) ?_
  refine q_runP (va_runS (As := [.int a1, .int 10, .int 1000]) (rest := []) ⟨hx, hb, hml, hown, hts⟩ (c_isWithin l a1 10 1000) (cwS 3 hts (gTS kw4 kw5 kw6 kw3) rfl rfl rfl hd1 ⟨(Nat.le_of_ble_eq_true rfl), (Nat.le_of_ble_eq_true rfl)⟩) preEq rfl rfl hl.1 rfl (lv_room (Nat.le_of_ble_eq_true rfl)) dX11_balloon_18 ⟨(Nat.le_of_ble_eq_true rfl), (Nat.le_of_ble_eq_true rfl)⟩) ?_
  refine lv_if_eq (tgt := 28) hx hb dX11_balloon_21 (by decide) (fun c9 => absurd v1 (bz_n c9)) (fun _ => ?_)
  refine lv_iconst (v := 1) hx hb dX11_balloon_24 (by decide) ?_
  refine lv_goto (tgt := 29) hx hb dX11_balloon_25 (by decide) ?_
  refine q_runPv (va_runS (As := [.int 1]) (rest := []) ⟨hx, hb, hml, hown, hts⟩ (c_require_1 l) (cwS 1 hts (gTS kw242 kw243 kw244 kw3) rfl rfl rfl hd14 ⟨(Nat.le_of_ble_eq_true rfl), (Nat.le_of_ble_eq_true rfl)⟩) preEq rfl rfl hl.1 rfl (lv_room (Nat.le_of_ble_eq_true rfl)) dX11_balloon_29 ⟨(Nat.le_of_ble_eq_true rfl), (Nat.le_of_ble_eq_true rfl)⟩) ?_
  refine lv_aload_n hx hb dX11_balloon_32 rfl (lv_at hl 0 rfl) ?_
  refine va_get (D := D) (ci := 11) (v := .int 0) (C := RX11) (T := TX11) (N := 15) hx hb hts iX11 hown hK hP 0 rfl rfl 4 (by decide) (hts _ kw57) (fun _ h9 => h9) rfl dX11_balloon_33 ?_
  refine lv_bipush (v := 6) hx hb dX11_balloon_36 (by decide) ?_
  refine lv_icmp_lt (tgt := 51) hx hb dX11_balloon_38 (by decide) (fun _ => ?_) (fun c9 => absurd (by decide +kernel) c9)
  refine lv_aload_n hx hb dX11_balloon_51 rfl (lv_at hl 0 rfl) ?_
  refine va_get (D := D) (ci := 11) (v := .ref h1) (C := RX11) (T := TX11) (N := 15) hx hb hts iX11 hown hK hP 0 rfl rfl 3 (by decide) (hts _ kw56) (fun _ h9 => h9) rfl dX11_balloon_52 ?_
  refine lv_aload_n hx hb dX11_balloon_55 rfl (lv_at hl 0 rfl) ?_
  refine va_get (D := D) (ci := 11) (v := .int 0) (C := RX11) (T := TX11) (N := 15) hx hb hts iX11 hown hK hP 0 rfl rfl 4 (by decide) (hts _ kw57) (fun _ h9 => h9) rfl dX11_balloon_56 ?_
  refine va_new (ci := 0) (fs := [.null, .null, .int 0, .int 0, .int 0, .int 0, .int 0, .int 0, .int 0, .int 0, .int 0, .int 0, .int 0, .int 0, .null]) (C := RX0) (T := TX0) (N := 15) hx hb hts iX0 tyX0 tyX0_ok hown (hts _ kw55) (hts _ kw291) (hts _ kw292) hK hP hD hS hA rfl fsX0 (Nat.le_of_ble_eq_true rfl) (Nat.le_of_ble_eq_true rfl) dX11_balloon_59 (fun q1 H hP hD hS => ?_)
  have hP : va_P D vwCl [(h0, .inr (11, [.int 0, .ref h2, .ref h3, .ref h1, .int 0, .ref h4, .int 0, .ref h5, .ref h6, .ref h7, .ref h8, .int 0, .ref h9, .int (-1), .ref h10])), (h1, .inl (k0, 6, .inr (.inr (.inr (.inr (fun _ => none)))))), (q1, .inr (0, [.null, .null, .int 0, .int 0, .int 0, .int 0, .int 0, .int 0, .int 0, .int 0, .int 0, .int 0, .int 0, .int 0, .null]))] H := hP
  have hD : va_D A [(h0, .inr (11, [.int 0, .ref h2, .ref h3, .ref h1, .int 0, .ref h4, .int 0, .ref h5, .ref h6, .ref h7, .ref h8, .int 0, .ref h9, .int (-1), .ref h10])), (h1, .inl (k0, 6, .inr (.inr (.inr (.inr (fun _ => none)))))), (q1, .inr (0, [.null, .null, .int 0, .int 0, .int 0, .int 0, .int 0, .int 0, .int 0, .int 0, .int 0, .int 0, .int 0, .int 0, .null]))] := hD
  refine W.cs (cells' := 1) (slots' := 15) rfl rfl ?_
  refine lv_dup hx hb dX11_balloon_62 rfl ?_
  refine lv_iload_n hx hb dX11_balloon_63 rfl (lv_at hl 1 rfl) ?_
  refine lv_iload_n hx hb dX11_balloon_64 rfl (lv_at hl 2 rfl) ?_
  refine q_run (D := D) (w1 := w_X0_init_1 q1 a0 a1) (t1 := t_X0_init_1) (o := none) (ws := [(h0, .inr (11, [.int 0, .ref h2, .ref h3, .ref h1, .int 0, .ref h4, .int 0, .ref h5, .ref h6, .ref h7, .ref h8, .int 0, .ref h9, .int (-1), .ref h10])), (h1, .inl (k0, 6, .inr (.inr (.inr (.inr (fun _ => none)))))), (q1, .inr (0, [.null, .null, .int 0, .int 0, .int 0, .int 0, .int 0, .int 0, .int 0, .int 0, .int 0, .int 0, .int 0, .int 0, .null]))]) (wc := [(q1, .inr (0, [.null, .null, .int 0, .int 0, .int 0, .int 0, .int 0, .int 0, .int 0, .int 0, .int 0, .int 0, .int 0, .int 0, .null]))]) (wr := [(h0, .inr (11, [.int 0, .ref h2, .ref h3, .ref h1, .int 0, .ref h4, .int 0, .ref h5, .ref h6, .ref h7, .ref h8, .int 0, .ref h9, .int (-1), .ref h10])), (h1, .inl (k0, 6, .inr (.inr (.inr (.inr (fun _ => none))))))]) (va_runI (b := q1) (As := [.int a0, .int a1]) (rest := [.ref q1, .int 0, .ref h1]) ⟨hx, hb, hml, hown, hts⟩ (c_X0_init_1 l D q1 a0 a1 H.size) (cwI 2 hts (gT kw326) rfl rfl rfl (hts _ kw292) (hts _ kw327) (hts _ kw328) rfl hd27 ⟨(Nat.le_of_ble_eq_true rfl), (Nat.le_of_ble_eq_true rfl)⟩) (SP.pre hP hK hD hE [2] [] rfl rfl rfl) rfl rfl hl.1 rfl (lv_room (Nat.le_of_ble_eq_true rfl)) dX11_balloon_65 ⟨(Nat.le_of_ble_eq_true rfl), (Nat.le_of_ble_eq_true rfl)⟩) hP hK hD hS hA [2] [0, 1] rfl rfl rfl (by decide) (fun u H locs hP hK hD hS => ?_)
  obtain ⟨q2, q3, q4, k5, q6, k7, q8, k9⟩ := u
  refine W.eq (g2 := F0 m 68 ls [.ref q1, .int 0, .ref h1]) rfl ?_
  refine W.cs (cells' := 6) (slots' := 7630) rfl rfl ?_
  have hP : va_P D vwCl [(h0, .inr (11, [.int 0, .ref h2, .ref h3, .ref h1, .int 0, .ref h4, .int 0, .ref h5, .ref h6, .ref h7, .ref h8, .int 0, .ref h9, .int (-1), .ref h10])), (h1, .inl (k0, 6, .inr (.inr (.inr (.inr (fun _ => none)))))), (q1, .inr (0, [.ref q2, .ref q3, .int 0, .int 0, .int 0, .int 0, .int 0, .int 0, .int (-1), .int 0, .int 0, .int 0, .int 0, .int 0, .ref q8])), (q2, .inr (1, [.int a0, .int a1, .int 0, .int 0, .int 0, .int 0, .int 0, .int 0, .int 0])), (q3, .inr (4, [.ref q4, .int 0, .ref q6, .int 0, .int 0, .int 0])), (q4, .inl (k5, 300, .inl (fun _ => 0))), (q6, .inl (k7, 300, .inl (fun _ => 0))), (q8, .inl (k9, 7000, .inl (fun _ => 0)))] H := hP
  have hD : va_D A [(h0, .inr (11, [.int 0, .ref h2, .ref h3, .ref h1, .int 0, .ref h4, .int 0, .ref h5, .ref h6, .ref h7, .ref h8, .int 0, .ref h9, .int (-1), .ref h10])), (h1, .inl (k0, 6, .inr (.inr (.inr (.inr (fun _ => none)))))), (q1, .inr (0, [.ref q2, .ref q3, .int 0, .int 0, .int 0, .int 0, .int 0, .int 0, .int (-1), .int 0, .int 0, .int 0, .int 0, .int 0, .ref q8])), (q2, .inr (1, [.int a0, .int a1, .int 0, .int 0, .int 0, .int 0, .int 0, .int 0, .int 0])), (q3, .inr (4, [.ref q4, .int 0, .ref q6, .int 0, .int 0, .int 0])), (q4, .inl (k5, 300, .inl (fun _ => 0))), (q6, .inl (k7, 300, .inl (fun _ => 0))), (q8, .inl (k9, 7000, .inl (fun _ => 0)))] := hD
  have hK : va_K D vwCl [(k0, .object "BalloonHouse$Balloon"), (k5, .int), (k7, .int), (k9, .int)] s := hK
  refine va_astq hx hb hK hP hD hS 1 0 2 0 rfl rfl rfl rfl (vin (by decide)) dX11_balloon_68 (fun H locs hP hD hS => ?_)
  have hP : va_P D vwCl [(h0, .inr (11, [.int 0, .ref h2, .ref h3, .ref h1, .int 0, .ref h4, .int 0, .ref h5, .ref h6, .ref h7, .ref h8, .int 0, .ref h9, .int (-1), .ref h10])), (h1, .inl (k0, 6, .inr (.inr (.inr (.inr (va_up (fun _ => none) 0 (some q1))))))), (q1, .inr (0, [.ref q2, .ref q3, .int 0, .int 0, .int 0, .int 0, .int 0, .int 0, .int (-1), .int 0, .int 0, .int 0, .int 0, .int 0, .ref q8])), (q2, .inr (1, [.int a0, .int a1, .int 0, .int 0, .int 0, .int 0, .int 0, .int 0, .int 0])), (q3, .inr (4, [.ref q4, .int 0, .ref q6, .int 0, .int 0, .int 0])), (q4, .inl (k5, 300, .inl (fun _ => 0))), (q6, .inl (k7, 300, .inl (fun _ => 0))), (q8, .inl (k9, 7000, .inl (fun _ => 0)))] H := hP
  have hD : va_D A [(h0, .inr (11, [.int 0, .ref h2, .ref h3, .ref h1, .int 0, .ref h4, .int 0, .ref h5, .ref h6, .ref h7, .ref h8, .int 0, .ref h9, .int (-1), .ref h10])), (h1, .inl (k0, 6, .inr (.inr (.inr (.inr (va_up (fun _ => none) 0 (some q1))))))), (q1, .inr (0, [.ref q2, .ref q3, .int 0, .int 0, .int 0, .int 0, .int 0, .int 0, .int (-1), .int 0, .int 0, .int 0, .int 0, .int 0, .ref q8])), (q2, .inr (1, [.int a0, .int a1, .int 0, .int 0, .int 0, .int 0, .int 0, .int 0, .int 0])), (q3, .inr (4, [.ref q4, .int 0, .ref q6, .int 0, .int 0, .int 0])), (q4, .inl (k5, 300, .inl (fun _ => 0))), (q6, .inl (k7, 300, .inl (fun _ => 0))), (q8, .inl (k9, 7000, .inl (fun _ => 0)))] := hD
  refine lv_aload_n hx hb dX11_balloon_69 rfl (lv_at hl 0 rfl) ?_
  refine lv_dup hx hb dX11_balloon_70 rfl ?_
  refine va_get (D := D) (ci := 11) (v := .int 0) (C := RX11) (T := TX11) (N := 15) hx hb hts iX11 hown hK hP 0 rfl rfl 4 (by decide) (hts _ kw57) (fun _ h9 => h9) rfl dX11_balloon_71 ?_
  refine lv_iconst (v := 1) hx hb dX11_balloon_74 (by decide) ?_
  refine lv_iadd hx hb dX11_balloon_75 ?_
  refine lv_lit (v := 1) (by decide +kernel) ?_
  refine va_put (D := D) (ci := 11) (v := .int 1) (ty := .int) (C := RX11) (T := TX11) (N := 15) hx hb hts iX11 tyX11 tyX11_ok nmX11 hown hK hP hD hS 0 rfl rfl 4 (by decide) (hts _ kw57) (fun _ h9 => h9) rfl (tyX11_ok 4 (by decide)) rfl rfl (Nat.le_of_ble_eq_true rfl) dX11_balloon_76 (fun H locs hP hD hS => ?_)
  have hP : va_P D vwCl [(h0, .inr (11, [.int 0, .ref h2, .ref h3, .ref h1, .int 1, .ref h4, .int 0, .ref h5, .ref h6, .ref h7, .ref h8, .int 0, .ref h9, .int (-1), .ref h10])), (h1, .inl (k0, 6, .inr (.inr (.inr (.inr (va_up (fun _ => none) 0 (some q1))))))), (q1, .inr (0, [.ref q2, .ref q3, .int 0, .int 0, .int 0, .int 0, .int 0, .int 0, .int (-1), .int 0, .int 0, .int 0, .int 0, .int 0, .ref q8])), (q2, .inr (1, [.int a0, .int a1, .int 0, .int 0, .int 0, .int 0, .int 0, .int 0, .int 0])), (q3, .inr (4, [.ref q4, .int 0, .ref q6, .int 0, .int 0, .int 0])), (q4, .inl (k5, 300, .inl (fun _ => 0))), (q6, .inl (k7, 300, .inl (fun _ => 0))), (q8, .inl (k9, 7000, .inl (fun _ => 0)))] H := hP
  have hD : va_D A [(h0, .inr (11, [.int 0, .ref h2, .ref h3, .ref h1, .int 1, .ref h4, .int 0, .ref h5, .ref h6, .ref h7, .ref h8, .int 0, .ref h9, .int (-1), .ref h10])), (h1, .inl (k0, 6, .inr (.inr (.inr (.inr (va_up (fun _ => none) 0 (some q1))))))), (q1, .inr (0, [.ref q2, .ref q3, .int 0, .int 0, .int 0, .int 0, .int 0, .int 0, .int (-1), .int 0, .int 0, .int 0, .int 0, .int 0, .ref q8])), (q2, .inr (1, [.int a0, .int a1, .int 0, .int 0, .int 0, .int 0, .int 0, .int 0, .int 0])), (q3, .inr (4, [.ref q4, .int 0, .ref q6, .int 0, .int 0, .int 0])), (q4, .inl (k5, 300, .inl (fun _ => 0))), (q6, .inl (k7, 300, .inl (fun _ => 0))), (q8, .inl (k9, 7000, .inl (fun _ => 0)))] := hD
  refine lv_aload_n hx hb dX11_balloon_79 rfl (lv_at hl 0 rfl) ?_
  refine va_get (D := D) (ci := 11) (v := .int 1) (C := RX11) (T := TX11) (N := 15) hx hb hts iX11 hown hK hP 0 rfl rfl 4 (by decide) (hts _ kw57) (fun _ h9 => h9) rfl dX11_balloon_80 ?_
  refine lv_iconst (v := 1) hx hb dX11_balloon_83 (by decide) ?_
  refine lv_isub hx hb dX11_balloon_84 ?_
  refine lv_lit (v := 0) (by decide +kernel) ?_
  exact q_iret (q1, q2, q3, q4, k5, q6, k7, q8, k9) hx hb hr hlocks hP hK hD hS [0, 1, 2, 3, 4, 5, 6, 7] [1, 2, 3] rfl rfl rfl dX11_balloon_85 (Nat.le_of_ble_eq_true rfl) (Nat.le_of_ble_eq_true rfl)
set_option maxHeartbeats 4000000 in
set_option maxRecDepth 100000 in
theorem c_X11_balloon_2 (l : Launch) (hst : l.stackTraces = false) (D : va_G) (h0 : Nat) (a0 a1 : Int32) (sz : Nat) (v0 : ¬ vBall a0 a1) : vx_Met l yX11_balloon (.code yX11_balloon cX11_balloon 3 (some .int) :: wT) ({ frames := 7, cells := 1, slots := 6, locals := 103 } : Room) (SPx D [.ref h0, .int a0, .int a1] [] [] sz) QNo (XQ "java/lang/IllegalArgumentException" (va_A [] sz)) 1 6 (va_A [] sz) := by
  refine SPx.start (by decide) (Nat.le_of_ble_eq_true rfl) ?_
  intro p e s m below meth c ls A hx hb hr hml hown hts hlocks htab hA hP hK hD hE hZ hl hS
  have hown : s.vm.findClass RX11 = some m.cls := hown
  have hl : lv_has ls 3 [(0, .ref h0), (1, .int a0), (2, .int a1)] := hl
  refine lv_iload_n hx hb dX11_balloon_0 rfl (lv_at hl 1 rfl) ?_
  refine lv_bipush (v := 100) hx hb dX11_balloon_1 (by decide) ?_
  refine lv_sipush (v := 5000) hx hb dX11_balloon_3 (by decide +kernel) ?_
  refine q_runP (va_runS (As := [.int a0, .int 100, .int 5000]) (rest := []) ⟨hx, hb, hml, hown, hts⟩ (c_isWithin l a0 100 5000) (cwS 3 hts (gTS kw4 kw5 kw6 kw3) rfl rfl rfl hd1 ⟨(Nat.le_of_ble_eq_true rfl), (Nat.le_of_ble_eq_true rfl)⟩) preEq rfl rfl hl.1 rfl (lv_room (Nat.le_of_ble_eq_true rfl)) dX11_balloon_6 ⟨(Nat.le_of_ble_eq_true rfl), (Nat.le_of_ble_eq_true rfl)⟩) ?_
  refine lv_if_eq (tgt := 28) hx hb dX11_balloon_9 (by decide) (fun c1 => ?_) (fun c1 => ?_)
  · have c1 := bz_n c1
    refine lv_iconst (v := 0) hx hb dX11_balloon_28 (by decide) ?_
    exact q_xout (B := va_A [] s.heap.size) (vx_runS (As := [.int 0]) (rest := []) ⟨hx, hb, hml, hown, hts⟩ (c_X11_require_1 l hst D s.heap.size) (cwS 1 hts (gTS kw242 kw243 kw244 kw3) rfl rfl rfl hd14 ⟨(Nat.le_of_ble_eq_true rfl), (Nat.le_of_ble_eq_true rfl)⟩) (SPx.pre hP hK hD hE hZ hS hA [] [] rfl rfl rfl) rfl rfl hl.1 rfl (lv_room (Nat.le_of_ble_eq_true rfl)) dX11_balloon_29 ⟨(Nat.le_of_ble_eq_true rfl), (Nat.le_of_ble_eq_true rfl)⟩) hS (va_free (wc := []) hD hS hA [] rfl) htab hlocks (Nat.le_of_ble_eq_true rfl) (Nat.le_of_ble_eq_true rfl)
  · have c1 := bz_p c1
    refine lv_iload_n hx hb dX11_balloon_12 rfl (lv_at hl 2 rfl) ?_
    refine lv_bipush (v := 10) hx hb dX11_balloon_13 (by decide) ?_
    refine lv_sipush (v := 1000) hx hb dX11_balloon_15 (by decide +kernel) ?_
    refine q_runP (va_runS (As := [.int a1, .int 10, .int 1000]) (rest := []) ⟨hx, hb, hml, hown, hts⟩ (c_isWithin l a1 10 1000) (cwS 3 hts (gTS kw4 kw5 kw6 kw3) rfl rfl rfl hd1 ⟨(Nat.le_of_ble_eq_true rfl), (Nat.le_of_ble_eq_true rfl)⟩) preEq rfl rfl hl.1 rfl (lv_room (Nat.le_of_ble_eq_true rfl)) dX11_balloon_18 ⟨(Nat.le_of_ble_eq_true rfl), (Nat.le_of_ble_eq_true rfl)⟩) ?_
    refine lv_if_eq (tgt := 28) hx hb dX11_balloon_21 (by decide) (fun c2 => ?_) (fun c2 => ?_)
    · have c2 := bz_n c2
      refine lv_iconst (v := 0) hx hb dX11_balloon_28 (by decide) ?_
      exact q_xout (B := va_A [] s.heap.size) (vx_runS (As := [.int 0]) (rest := []) ⟨hx, hb, hml, hown, hts⟩ (c_X11_require_1 l hst D s.heap.size) (cwS 1 hts (gTS kw242 kw243 kw244 kw3) rfl rfl rfl hd14 ⟨(Nat.le_of_ble_eq_true rfl), (Nat.le_of_ble_eq_true rfl)⟩) (SPx.pre hP hK hD hE hZ hS hA [] [] rfl rfl rfl) rfl rfl hl.1 rfl (lv_room (Nat.le_of_ble_eq_true rfl)) dX11_balloon_29 ⟨(Nat.le_of_ble_eq_true rfl), (Nat.le_of_ble_eq_true rfl)⟩) hS (va_free (wc := []) hD hS hA [] rfl) htab hlocks (Nat.le_of_ble_eq_true rfl) (Nat.le_of_ble_eq_true rfl)
    · have c2 := bz_p c2
      exact absurd (show vBall a0 a1 from ⟨c1, c2⟩) v0
abbrev w_X9_keep_1 (h0 h1 h2 h3 h4 : Nat) (k0 k1 k2 : ClassId) (a0 a1 a2 : Int32) (_ : Unit) : va_W := [(h0, .inr (9, [.ref h1, .ref h2, .ref h3, .ref h4, .int 1, .int 0, .int 0, .int 1, .int 0, .int 0, .int 0, .int 0])), (h1, .inl (k0, 10, .inl (upd (fun _ => 0) 0 a0))), (h2, .inl (k1, 10, .inl (upd (fun _ => 0) 0 a1))), (h3, .inl (k2, 10, .inl (upd (fun _ => 0) 0 a2)))]
abbrev t_X9_keep_1 (_ : Unit) : List (ClassId × FieldType) := []
abbrev Q_X9_keep_1 (D : va_G) (h0 h1 h2 h3 h4 : Nat) (k0 k1 k2 : ClassId) (a0 a1 a2 : Int32) (A : Nat → Prop) : Array Value → State → Outcome → State → Prop := QW (.returned (some (.int 0))) D (w_X9_keep_1 h0 h1 h2 h3 h4 k0 k1 k2 a0 a1 a2) t_X9_keep_1 A
set_option maxHeartbeats 4000000 in
set_option maxRecDepth 100000 in
theorem c_X9_keep_1 (l : Launch) (D : va_G) (h0 h1 h2 h3 h4 : Nat) (k0 k1 k2 : ClassId) (a0 a1 a2 : Int32) (sz : Nat) : Met l yX9_keep (.code yX9_keep cX9_keep 4 (some .int) :: wT) ({ frames := 0, cells := 0, slots := 0, locals := 0 } : Room) (SP D [.ref h0, .int a0, .int a1, .int a2] [(h0, .inr (9, [.ref h1, .ref h2, .ref h3, .ref h4, .int 0, .int 0, .int 0, .int 0, .int 0, .int 0, .int 0, .int 0])), (h1, .inl (k0, 10, .inl (fun _ => 0))), (h2, .inl (k1, 10, .inl (fun _ => 0))), (h3, .inl (k2, 10, .inl (fun _ => 0)))] [(k0, .int), (k1, .int), (k2, .int)] sz) (Q_X9_keep_1 D h0 h1 h2 h3 h4 k0 k1 k2 a0 a1 a2 (va_A [(h0, .inr (9, [.ref h1, .ref h2, .ref h3, .ref h4, .int 0, .int 0, .int 0, .int 0, .int 0, .int 0, .int 0, .int 0])), (h1, .inl (k0, 10, .inl (fun _ => 0))), (h2, .inl (k1, 10, .inl (fun _ => 0))), (h3, .inl (k2, 10, .inl (fun _ => 0)))] sz)) 0 0 (va_A [(h0, .inr (9, [.ref h1, .ref h2, .ref h3, .ref h4, .int 0, .int 0, .int 0, .int 0, .int 0, .int 0, .int 0, .int 0])), (h1, .inl (k0, 10, .inl (fun _ => 0))), (h2, .inl (k1, 10, .inl (fun _ => 0))), (h3, .inl (k2, 10, .inl (fun _ => 0)))] sz) := by
  refine SP.start (Qf := Q_X9_keep_1 D h0 h1 h2 h3 h4 k0 k1 k2 a0 a1 a2) (by decide) (Nat.le_of_ble_eq_true rfl) ?_
  intro p e s m below meth c ls A hx hb hr hml hown hts hlocks hname hA hP hK hD hE hl hS
  have hown : s.vm.findClass RX9 = some m.cls := hown
  have hl : lv_has ls 4 [(0, .ref h0), (1, .int a0), (2, .int a1), (3, .int a2)] := hl
  refine lv_aload_n hx hb dX9_keep_0 rfl (lv_at hl 0 rfl) ?_
  refine va_get (D := D) (ci := 9) (v := .int 0) (C := RX9) (T := TX9) (N := 12) hx hb hts iX9 hown hK hP 0 rfl rfl 4 (by decide) (hts _ kw43) (fun _ h9 => h9) rfl dX9_keep_1 ?_
  refine lv_bipush (v := 10) hx hb dX9_keep_4 (by decide) ?_
  refine lv_icmp_lt (tgt := 11) hx hb dX9_keep_6 (by decide) (fun _ => ?_) (fun c9 => absurd (by decide +kernel) c9)
  refine lv_aload_n hx hb dX9_keep_11 rfl (lv_at hl 0 rfl) ?_
  refine va_get (D := D) (ci := 9) (v := .ref h1) (C := RX9) (T := TX9) (N := 12) hx hb hts iX9 hown hK hP 0 rfl rfl 0 (by decide) (hts _ kw39) (fun _ h9 => h9) rfl dX9_keep_12 ?_
  refine lv_aload_n hx hb dX9_keep_15 rfl (lv_at hl 0 rfl) ?_
  refine va_get (D := D) (ci := 9) (v := .int 0) (C := RX9) (T := TX9) (N := 12) hx hb hts iX9 hown hK hP 0 rfl rfl 4 (by decide) (hts _ kw43) (fun _ h9 => h9) rfl dX9_keep_16 ?_
  refine lv_iload_n hx hb dX9_keep_19 rfl (lv_at hl 1 rfl) ?_
  refine va_iast hx hb hK hP hD hS 1 0 rfl rfl (vin (by decide)) dX9_keep_20 (fun H locs hP hD hS => ?_)
  have hP : va_P D vwCl [(h0, .inr (9, [.ref h1, .ref h2, .ref h3, .ref h4, .int 0, .int 0, .int 0, .int 0, .int 0, .int 0, .int 0, .int 0])), (h1, .inl (k0, 10, .inl (upd (fun _ => 0) 0 a0))), (h2, .inl (k1, 10, .inl (fun _ => 0))), (h3, .inl (k2, 10, .inl (fun _ => 0)))] H := hP
  have hD : va_D A [(h0, .inr (9, [.ref h1, .ref h2, .ref h3, .ref h4, .int 0, .int 0, .int 0, .int 0, .int 0, .int 0, .int 0, .int 0])), (h1, .inl (k0, 10, .inl (upd (fun _ => 0) 0 a0))), (h2, .inl (k1, 10, .inl (fun _ => 0))), (h3, .inl (k2, 10, .inl (fun _ => 0)))] := hD
  refine lv_aload_n hx hb dX9_keep_21 rfl (lv_at hl 0 rfl) ?_
  refine va_get (D := D) (ci := 9) (v := .ref h2) (C := RX9) (T := TX9) (N := 12) hx hb hts iX9 hown hK hP 0 rfl rfl 1 (by decide) (hts _ kw40) (fun _ h9 => h9) rfl dX9_keep_22 ?_
  refine lv_aload_n hx hb dX9_keep_25 rfl (lv_at hl 0 rfl) ?_
  refine va_get (D := D) (ci := 9) (v := .int 0) (C := RX9) (T := TX9) (N := 12) hx hb hts iX9 hown hK hP 0 rfl rfl 4 (by decide) (hts _ kw43) (fun _ h9 => h9) rfl dX9_keep_26 ?_
  refine lv_iload_n hx hb dX9_keep_29 rfl (lv_at hl 2 rfl) ?_
  refine va_iast hx hb hK hP hD hS 2 1 rfl rfl (vin (by decide)) dX9_keep_30 (fun H locs hP hD hS => ?_)
  have hP : va_P D vwCl [(h0, .inr (9, [.ref h1, .ref h2, .ref h3, .ref h4, .int 0, .int 0, .int 0, .int 0, .int 0, .int 0, .int 0, .int 0])), (h1, .inl (k0, 10, .inl (upd (fun _ => 0) 0 a0))), (h2, .inl (k1, 10, .inl (upd (fun _ => 0) 0 a1))), (h3, .inl (k2, 10, .inl (fun _ => 0)))] H := hP
  have hD : va_D A [(h0, .inr (9, [.ref h1, .ref h2, .ref h3, .ref h4, .int 0, .int 0, .int 0, .int 0, .int 0, .int 0, .int 0, .int 0])), (h1, .inl (k0, 10, .inl (upd (fun _ => 0) 0 a0))), (h2, .inl (k1, 10, .inl (upd (fun _ => 0) 0 a1))), (h3, .inl (k2, 10, .inl (fun _ => 0)))] := hD
  refine lv_aload_n hx hb dX9_keep_31 rfl (lv_at hl 0 rfl) ?_
  refine va_get (D := D) (ci := 9) (v := .ref h3) (C := RX9) (T := TX9) (N := 12) hx hb hts iX9 hown hK hP 0 rfl rfl 2 (by decide) (hts _ kw41) (fun _ h9 => h9) rfl dX9_keep_32 ?_
  refine lv_aload_n hx hb dX9_keep_35 rfl (lv_at hl 0 rfl) ?_
  refine va_get (D := D) (ci := 9) (v := .int 0) (C := RX9) (T := TX9) (N := 12) hx hb hts iX9 hown hK hP 0 rfl rfl 4 (by decide) (hts _ kw43) (fun _ h9 => h9) rfl dX9_keep_36 ?_
  refine lv_iload_n hx hb dX9_keep_39 rfl (lv_at hl 3 rfl) ?_
  refine va_iast hx hb hK hP hD hS 3 2 rfl rfl (vin (by decide)) dX9_keep_40 (fun H locs hP hD hS => ?_)
  have hP : va_P D vwCl [(h0, .inr (9, [.ref h1, .ref h2, .ref h3, .ref h4, .int 0, .int 0, .int 0, .int 0, .int 0, .int 0, .int 0, .int 0])), (h1, .inl (k0, 10, .inl (upd (fun _ => 0) 0 a0))), (h2, .inl (k1, 10, .inl (upd (fun _ => 0) 0 a1))), (h3, .inl (k2, 10, .inl (upd (fun _ => 0) 0 a2)))] H := hP
  have hD : va_D A [(h0, .inr (9, [.ref h1, .ref h2, .ref h3, .ref h4, .int 0, .int 0, .int 0, .int 0, .int 0, .int 0, .int 0, .int 0])), (h1, .inl (k0, 10, .inl (upd (fun _ => 0) 0 a0))), (h2, .inl (k1, 10, .inl (upd (fun _ => 0) 0 a1))), (h3, .inl (k2, 10, .inl (upd (fun _ => 0) 0 a2)))] := hD
  refine lv_aload_n hx hb dX9_keep_41 rfl (lv_at hl 0 rfl) ?_
  refine lv_dup hx hb dX9_keep_42 rfl ?_
  refine va_get (D := D) (ci := 9) (v := .int 0) (C := RX9) (T := TX9) (N := 12) hx hb hts iX9 hown hK hP 0 rfl rfl 4 (by decide) (hts _ kw43) (fun _ h9 => h9) rfl dX9_keep_43 ?_
  refine lv_iconst (v := 1) hx hb dX9_keep_46 (by decide) ?_
  refine lv_iadd hx hb dX9_keep_47 ?_
  refine lv_lit (v := 1) (by decide +kernel) ?_
  refine va_put (D := D) (ci := 9) (v := .int 1) (ty := .int) (C := RX9) (T := TX9) (N := 12) hx hb hts iX9 tyX9 tyX9_ok nmX9 hown hK hP hD hS 0 rfl rfl 4 (by decide) (hts _ kw43) (fun _ h9 => h9) rfl (tyX9_ok 4 (by decide)) rfl rfl (Nat.le_of_ble_eq_true rfl) dX9_keep_48 (fun H locs hP hD hS => ?_)
  have hP : va_P D vwCl [(h0, .inr (9, [.ref h1, .ref h2, .ref h3, .ref h4, .int 1, .int 0, .int 0, .int 0, .int 0, .int 0, .int 0, .int 0])), (h1, .inl (k0, 10, .inl (upd (fun _ => 0) 0 a0))), (h2, .inl (k1, 10, .inl (upd (fun _ => 0) 0 a1))), (h3, .inl (k2, 10, .inl (upd (fun _ => 0) 0 a2)))] H := hP
  have hD : va_D A [(h0, .inr (9, [.ref h1, .ref h2, .ref h3, .ref h4, .int 1, .int 0, .int 0, .int 0, .int 0, .int 0, .int 0, .int 0])), (h1, .inl (k0, 10, .inl (upd (fun _ => 0) 0 a0))), (h2, .inl (k1, 10, .inl (upd (fun _ => 0) 0 a1))), (h3, .inl (k2, 10, .inl (upd (fun _ => 0) 0 a2)))] := hD
  refine lv_aload_n hx hb dX9_keep_51 rfl (lv_at hl 0 rfl) ?_
  refine lv_dup hx hb dX9_keep_52 rfl ?_
  refine va_get (D := D) (ci := 9) (v := .int 0) (C := RX9) (T := TX9) (N := 12) hx hb hts iX9 hown hK hP 0 rfl rfl 7 (by decide) (hts _ kw46) (fun _ h9 => h9) rfl dX9_keep_53 ?_
  refine lv_iconst (v := 1) hx hb dX9_keep_56 (by decide) ?_
  refine lv_iadd hx hb dX9_keep_57 ?_
  refine lv_lit (v := 1) (by decide +kernel) ?_
  refine va_put (D := D) (ci := 9) (v := .int 1) (ty := .int) (C := RX9) (T := TX9) (N := 12) hx hb hts iX9 tyX9 tyX9_ok nmX9 hown hK hP hD hS 0 rfl rfl 7 (by decide) (hts _ kw46) (fun _ h9 => h9) rfl (tyX9_ok 7 (by decide)) rfl rfl (Nat.le_of_ble_eq_true rfl) dX9_keep_58 (fun H locs hP hD hS => ?_)
  have hP : va_P D vwCl [(h0, .inr (9, [.ref h1, .ref h2, .ref h3, .ref h4, .int 1, .int 0, .int 0, .int 1, .int 0, .int 0, .int 0, .int 0])), (h1, .inl (k0, 10, .inl (upd (fun _ => 0) 0 a0))), (h2, .inl (k1, 10, .inl (upd (fun _ => 0) 0 a1))), (h3, .inl (k2, 10, .inl (upd (fun _ => 0) 0 a2)))] H := hP
  have hD : va_D A [(h0, .inr (9, [.ref h1, .ref h2, .ref h3, .ref h4, .int 1, .int 0, .int 0, .int 1, .int 0, .int 0, .int 0, .int 0])), (h1, .inl (k0, 10, .inl (upd (fun _ => 0) 0 a0))), (h2, .inl (k1, 10, .inl (upd (fun _ => 0) 0 a1))), (h3, .inl (k2, 10, .inl (upd (fun _ => 0) 0 a2)))] := hD
  refine lv_aload_n hx hb dX9_keep_61 rfl (lv_at hl 0 rfl) ?_
  refine va_get (D := D) (ci := 9) (v := .int 1) (C := RX9) (T := TX9) (N := 12) hx hb hts iX9 hown hK hP 0 rfl rfl 4 (by decide) (hts _ kw43) (fun _ h9 => h9) rfl dX9_keep_62 ?_
  refine lv_iconst (v := 1) hx hb dX9_keep_65 (by decide) ?_
  refine lv_isub hx hb dX9_keep_66 ?_
  refine lv_lit (v := 0) (by decide +kernel) ?_
  exact q_iret () hx hb hr hlocks hP hK hD hS [0, 1, 2, 3] [] rfl rfl rfl dX9_keep_67 (Nat.le_of_ble_eq_true rfl) (Nat.le_of_ble_eq_true rfl)
abbrev w_X11_cylinder_1 (h0 h1 h2 h3 h4 h5 h6 h7 h8 h9 h10 h11 h12 h13 h14 : Nat) (k0 k1 k2 : ClassId) (a0 a1 a2 : Int32) (_ : Unit) : va_W := [(h0, .inr (11, [.int 0, .ref h5, .ref h1, .ref h6, .int 0, .ref h7, .int 0, .ref h8, .ref h9, .ref h10, .ref h11, .int 0, .ref h12, .int (-1), .ref h13])), (h1, .inr (9, [.ref h2, .ref h3, .ref h4, .ref h14, .int 1, .int 0, .int 0, .int 1, .int 0, .int 0, .int 0, .int 0])), (h2, .inl (k0, 10, .inl (upd (fun _ => 0) 0 a0))), (h3, .inl (k1, 10, .inl (upd (fun _ => 0) 0 a1))), (h4, .inl (k2, 10, .inl (upd (fun _ => 0) 0 a2)))]
abbrev t_X11_cylinder_1 (_ : Unit) : List (ClassId × FieldType) := []
abbrev Q_X11_cylinder_1 (D : va_G) (h0 h1 h2 h3 h4 h5 h6 h7 h8 h9 h10 h11 h12 h13 h14 : Nat) (k0 k1 k2 : ClassId) (a0 a1 a2 : Int32) (A : Nat → Prop) : Array Value → State → Outcome → State → Prop := QW (.returned (some (.int 0))) D (w_X11_cylinder_1 h0 h1 h2 h3 h4 h5 h6 h7 h8 h9 h10 h11 h12 h13 h14 k0 k1 k2 a0 a1 a2) t_X11_cylinder_1 A
set_option maxHeartbeats 4000000 in
set_option maxRecDepth 100000 in
theorem c_X11_cylinder_1 (l : Launch) (D : va_G) (h0 h1 h2 h3 h4 h5 h6 h7 h8 h9 h10 h11 h12 h13 h14 : Nat) (k0 k1 k2 : ClassId) (a0 a1 a2 : Int32) (sz : Nat) (v0 : pIn a0 1 1000) (v1 : pIn a1 1 100) (v2 : pIn a2 0 1000) : Met l yX11_cylinder (.code yX11_cylinder cX11_cylinder 4 (some .int) :: wT) ({ frames := 1, cells := 0, slots := 0, locals := 23 } : Room) (SP D [.ref h0, .int a0, .int a1, .int a2] [(h0, .inr (11, [.int 0, .ref h5, .ref h1, .ref h6, .int 0, .ref h7, .int 0, .ref h8, .ref h9, .ref h10, .ref h11, .int 0, .ref h12, .int (-1), .ref h13])), (h1, .inr (9, [.ref h2, .ref h3, .ref h4, .ref h14, .int 0, .int 0, .int 0, .int 0, .int 0, .int 0, .int 0, .int 0])), (h2, .inl (k0, 10, .inl (fun _ => 0))), (h3, .inl (k1, 10, .inl (fun _ => 0))), (h4, .inl (k2, 10, .inl (fun _ => 0)))] [(k0, .int), (k1, .int), (k2, .int)] sz) (Q_X11_cylinder_1 D h0 h1 h2 h3 h4 h5 h6 h7 h8 h9 h10 h11 h12 h13 h14 k0 k1 k2 a0 a1 a2 (va_A [(h0, .inr (11, [.int 0, .ref h5, .ref h1, .ref h6, .int 0, .ref h7, .int 0, .ref h8, .ref h9, .ref h10, .ref h11, .int 0, .ref h12, .int (-1), .ref h13])), (h1, .inr (9, [.ref h2, .ref h3, .ref h4, .ref h14, .int 0, .int 0, .int 0, .int 0, .int 0, .int 0, .int 0, .int 0])), (h2, .inl (k0, 10, .inl (fun _ => 0))), (h3, .inl (k1, 10, .inl (fun _ => 0))), (h4, .inl (k2, 10, .inl (fun _ => 0)))] sz)) 0 0 (va_A [(h0, .inr (11, [.int 0, .ref h5, .ref h1, .ref h6, .int 0, .ref h7, .int 0, .ref h8, .ref h9, .ref h10, .ref h11, .int 0, .ref h12, .int (-1), .ref h13])), (h1, .inr (9, [.ref h2, .ref h3, .ref h4, .ref h14, .int 0, .int 0, .int 0, .int 0, .int 0, .int 0, .int 0, .int 0])), (h2, .inl (k0, 10, .inl (fun _ => 0))), (h3, .inl (k1, 10, .inl (fun _ => 0))), (h4, .inl (k2, 10, .inl (fun _ => 0)))] sz) := by
  refine SP.start (Qf := Q_X11_cylinder_1 D h0 h1 h2 h3 h4 h5 h6 h7 h8 h9 h10 h11 h12 h13 h14 k0 k1 k2 a0 a1 a2) (by decide) (Nat.le_of_ble_eq_true rfl) ?_
  intro p e s m below meth c ls A hx hb hr hml hown hts hlocks hname hA hP hK hD hE hl hS
  have hown : s.vm.findClass RX11 = some m.cls := hown
  have hl : lv_has ls 4 [(0, .ref h0), (1, .int a0), (2, .int a1), (3, .int a2)] := hl
  refine lv_iload_n hx hb dX11_cylinder_0 rfl (lv_at hl 1 rfl) ?_
  refine lv_iconst (v := 1) hx hb dX11_cylinder_1 (by decide) ?_
  refine lv_sipush (v := 1000) hx hb dX11_cylinder_2 (by decide +kernel) ?_
  refine q_runP (va_runS (As := [.int a0, .int 1, .int 1000]) (rest := []) ⟨hx, hb, hml, hown, hts⟩ (c_isWithin l a0 1 1000) (cwS 3 hts (gTS kw4 kw5 kw6 kw3) rfl rfl rfl hd1 ⟨(Nat.le_of_ble_eq_true rfl), (Nat.le_of_ble_eq_true rfl)⟩) preEq rfl rfl hl.1 rfl (lv_room (Nat.le_of_ble_eq_true rfl)) dX11_cylinder_5 ⟨(Nat.le_of_ble_eq_true rfl), (Nat.le_of_ble_eq_true rfl)⟩) ?_
  refine lv_if_eq (tgt := 36) hx hb dX11_cylinder_8 (by decide) (fun c9 => absurd v0 (bz_n c9)) (fun _ => ?_)
  refine lv_iload_n hx hb dX11_cylinder_11 rfl (lv_at hl 2 rfl) ?_
  refine lv_iconst (v := 1) hx hb dX11_cylinder_12 (by decide) ?_
  refine lv_bipush (v := 100) hx hb dX11_cylinder_13 (by decide) ?_
  refine q_runP (va_runS (As := [.int a1, .int 1, .int 100]) (rest := []) ⟨hx, hb, hml, hown, hts⟩ (c_isWithin l a1 1 100) (cwS 3 hts (gTS kw4 kw5 kw6 kw3) rfl rfl rfl hd1 ⟨(Nat.le_of_ble_eq_true rfl), (Nat.le_of_ble_eq_true rfl)⟩) preEq rfl rfl hl.1 rfl (lv_room (Nat.le_of_ble_eq_true rfl)) dX11_cylinder_15 ⟨(Nat.le_of_ble_eq_true rfl), (Nat.le_of_ble_eq_true rfl)⟩) ?_
  refine lv_if_eq (tgt := 36) hx hb dX11_cylinder_18 (by decide) (fun c9 => absurd v1 (bz_n c9)) (fun _ => ?_)
  refine lv_iload_n hx hb dX11_cylinder_21 rfl (lv_at hl 3 rfl) ?_
  refine lv_iconst (v := 0) hx hb dX11_cylinder_22 (by decide) ?_
  refine lv_sipush (v := 1000) hx hb dX11_cylinder_23 (by decide +kernel) ?_
  refine q_runP (va_runS (As := [.int a2, .int 0, .int 1000]) (rest := []) ⟨hx, hb, hml, hown, hts⟩ (c_isWithin l a2 0 1000) (cwS 3 hts (gTS kw4 kw5 kw6 kw3) rfl rfl rfl hd1 ⟨(Nat.le_of_ble_eq_true rfl), (Nat.le_of_ble_eq_true rfl)⟩) preEq rfl rfl hl.1 rfl (lv_room (Nat.le_of_ble_eq_true rfl)) dX11_cylinder_26 ⟨(Nat.le_of_ble_eq_true rfl), (Nat.le_of_ble_eq_true rfl)⟩) ?_
  refine lv_if_eq (tgt := 36) hx hb dX11_cylinder_29 (by decide) (fun c9 => absurd v2 (bz_n c9)) (fun _ => ?_)
  refine lv_iconst (v := 1) hx hb dX11_cylinder_32 (by decide) ?_
  refine lv_goto (tgt := 37) hx hb dX11_cylinder_33 (by decide) ?_
  refine q_runPv (va_runS (As := [.int 1]) (rest := []) ⟨hx, hb, hml, hown, hts⟩ (c_require_1 l) (cwS 1 hts (gTS kw242 kw243 kw244 kw3) rfl rfl rfl hd14 ⟨(Nat.le_of_ble_eq_true rfl), (Nat.le_of_ble_eq_true rfl)⟩) preEq rfl rfl hl.1 rfl (lv_room (Nat.le_of_ble_eq_true rfl)) dX11_cylinder_37 ⟨(Nat.le_of_ble_eq_true rfl), (Nat.le_of_ble_eq_true rfl)⟩) ?_
  refine lv_aload_n hx hb dX11_cylinder_40 rfl (lv_at hl 0 rfl) ?_
  refine va_get (D := D) (ci := 11) (v := .ref h1) (C := RX11) (T := TX11) (N := 15) hx hb hts iX11 hown hK hP 0 rfl rfl 2 (by decide) (hts _ kw54) (fun _ h9 => h9) rfl dX11_cylinder_41 ?_
  refine lv_iload_n hx hb dX11_cylinder_44 rfl (lv_at hl 1 rfl) ?_
  refine lv_iload_n hx hb dX11_cylinder_45 rfl (lv_at hl 2 rfl) ?_
  refine lv_iload_n hx hb dX11_cylinder_46 rfl (lv_at hl 3 rfl) ?_
  refine q_run (D := D) (w1 := w_X9_keep_1 h1 h2 h3 h4 h14 k0 k1 k2 a0 a1 a2) (t1 := t_X9_keep_1) (o := (some (.int 0))) (ws := [(h0, .inr (11, [.int 0, .ref h5, .ref h1, .ref h6, .int 0, .ref h7, .int 0, .ref h8, .ref h9, .ref h10, .ref h11, .int 0, .ref h12, .int (-1), .ref h13])), (h1, .inr (9, [.ref h2, .ref h3, .ref h4, .ref h14, .int 0, .int 0, .int 0, .int 0, .int 0, .int 0, .int 0, .int 0])), (h2, .inl (k0, 10, .inl (fun _ => 0))), (h3, .inl (k1, 10, .inl (fun _ => 0))), (h4, .inl (k2, 10, .inl (fun _ => 0)))]) (wc := [(h1, .inr (9, [.ref h2, .ref h3, .ref h4, .ref h14, .int 0, .int 0, .int 0, .int 0, .int 0, .int 0, .int 0, .int 0])), (h2, .inl (k0, 10, .inl (fun _ => 0))), (h3, .inl (k1, 10, .inl (fun _ => 0))), (h4, .inl (k2, 10, .inl (fun _ => 0)))]) (wr := [(h0, .inr (11, [.int 0, .ref h5, .ref h1, .ref h6, .int 0, .ref h7, .int 0, .ref h8, .ref h9, .ref h10, .ref h11, .int 0, .ref h12, .int (-1), .ref h13]))]) (va_runV (C := RX9) (b := h1) (As := [.int a0, .int a1, .int a2]) (rest := []) ⟨hx, hb, hml, hown, hts⟩ (c_X9_keep_1 l D h1 h2 h3 h4 h14 k0 k1 k2 a0 a1 a2 s.heap.size) (cwV 3 hts (gTV kw329 kw330 kw331 kw332 kw37) rfl rfl rfl hd28 ⟨(Nat.le_of_ble_eq_true rfl), (Nat.le_of_ble_eq_true rfl)⟩) ⟨SP.blind, q_recv (ws := [(h0, .inr (11, [.int 0, .ref h5, .ref h1, .ref h6, .int 0, .ref h7, .int 0, .ref h8, .ref h9, .ref h10, .ref h11, .int 0, .ref h12, .int (-1), .ref h13])), (h1, .inr (9, [.ref h2, .ref h3, .ref h4, .ref h14, .int 0, .int 0, .int 0, .int 0, .int 0, .int 0, .int 0, .int 0])), (h2, .inl (k0, 10, .inl (fun _ => 0))), (h3, .inl (k1, 10, .inl (fun _ => 0))), (h4, .inl (k2, 10, .inl (fun _ => 0)))]) (wc := []) (r := (RX9, TX9, 12)) (ci := 9) (i := 1) hP hK rfl rfl, (SP.pre hP hK hD hE [1, 2, 3, 4] [0, 1, 2] rfl rfl rfl).2⟩ rfl rfl hl.1 rfl (lv_room (Nat.le_of_ble_eq_true rfl)) dX11_cylinder_47 ⟨(Nat.le_of_ble_eq_true rfl), (Nat.le_of_ble_eq_true rfl)⟩) hP hK hD hS hA [1, 2, 3, 4] [0] rfl rfl rfl (by decide) (fun u H locs hP hK hD hS => ?_)
  refine W.eq (g2 := F0 m 50 ls [.int 0]) rfl ?_
  refine W.cs (cells' := 0) (slots' := 0) rfl rfl ?_
  have hP : va_P D vwCl [(h0, .inr (11, [.int 0, .ref h5, .ref h1, .ref h6, .int 0, .ref h7, .int 0, .ref h8, .ref h9, .ref h10, .ref h11, .int 0, .ref h12, .int (-1), .ref h13])), (h1, .inr (9, [.ref h2, .ref h3, .ref h4, .ref h14, .int 1, .int 0, .int 0, .int 1, .int 0, .int 0, .int 0, .int 0])), (h2, .inl (k0, 10, .inl (upd (fun _ => 0) 0 a0))), (h3, .inl (k1, 10, .inl (upd (fun _ => 0) 0 a1))), (h4, .inl (k2, 10, .inl (upd (fun _ => 0) 0 a2)))] H := hP
  have hD : va_D A [(h0, .inr (11, [.int 0, .ref h5, .ref h1, .ref h6, .int 0, .ref h7, .int 0, .ref h8, .ref h9, .ref h10, .ref h11, .int 0, .ref h12, .int (-1), .ref h13])), (h1, .inr (9, [.ref h2, .ref h3, .ref h4, .ref h14, .int 1, .int 0, .int 0, .int 1, .int 0, .int 0, .int 0, .int 0])), (h2, .inl (k0, 10, .inl (upd (fun _ => 0) 0 a0))), (h3, .inl (k1, 10, .inl (upd (fun _ => 0) 0 a1))), (h4, .inl (k2, 10, .inl (upd (fun _ => 0) 0 a2)))] := hD
  have hK : va_K D vwCl [(k0, .int), (k1, .int), (k2, .int)] s := hK
  exact q_iret () hx hb hr hlocks hP hK hD hS [0, 1, 2, 3, 4] [] rfl rfl rfl dX11_cylinder_50 (Nat.le_of_ble_eq_true rfl) (Nat.le_of_ble_eq_true rfl)
