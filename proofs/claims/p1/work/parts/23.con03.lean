abbrev w_X7_note_1 (h0 h1 h2 h3 h4 h5 h6 h7 h8 h9 : Nat) (k0 k1 : ClassId) (a0 a1 a2 : Int32) (_ : Unit) : va_W := [(h0, .inr (7, [.ref h1, .ref h2, .ref h3, .ref h4, .ref h5, .ref h6, .ref h7, .ref h8, .ref h9, .int 0, .int 0, .int 1, .int 0])), (h1, .inl (k0, 12, .inl (upd (fun _ => 0) 0 a0))), (h2, .inl (k1, 12, .inl (upd (fun _ => 0) 0 ((a2 * 24) + a1))))]
abbrev t_X7_note_1 (_ : Unit) : List (ClassId × FieldType) := []
abbrev Q_X7_note_1 (D : va_G) (h0 h1 h2 h3 h4 h5 h6 h7 h8 h9 : Nat) (k0 k1 : ClassId) (a0 a1 a2 : Int32) (A : Nat → Prop) : Array Value → State → Outcome → State → Prop := QW (.returned (some (.int 1))) D (w_X7_note_1 h0 h1 h2 h3 h4 h5 h6 h7 h8 h9 k0 k1 a0 a1 a2) t_X7_note_1 A
set_option maxHeartbeats 4000000 in
set_option maxRecDepth 100000 in
theorem c_X7_note_1 (l : Launch) (D : va_G) (h0 h1 h2 h3 h4 h5 h6 h7 h8 h9 : Nat) (k0 k1 : ClassId) (a0 a1 a2 : Int32) (sz : Nat) : Met l yX7_note (.code yX7_note cX7_note 4 (some .int) :: wT) ({ frames := 0, cells := 0, slots := 0, locals := 0 } : Room) (SP D [.ref h0, .int a0, .int a1, .int a2] [(h0, .inr (7, [.ref h1, .ref h2, .ref h3, .ref h4, .ref h5, .ref h6, .ref h7, .ref h8, .ref h9, .int 0, .int 0, .int 0, .int 0])), (h1, .inl (k0, 12, .inl (fun _ => 0))), (h2, .inl (k1, 12, .inl (fun _ => 0)))] [(k0, .int), (k1, .int)] sz) (Q_X7_note_1 D h0 h1 h2 h3 h4 h5 h6 h7 h8 h9 k0 k1 a0 a1 a2 (va_A [(h0, .inr (7, [.ref h1, .ref h2, .ref h3, .ref h4, .ref h5, .ref h6, .ref h7, .ref h8, .ref h9, .int 0, .int 0, .int 0, .int 0])), (h1, .inl (k0, 12, .inl (fun _ => 0))), (h2, .inl (k1, 12, .inl (fun _ => 0)))] sz)) 0 0 (va_A [(h0, .inr (7, [.ref h1, .ref h2, .ref h3, .ref h4, .ref h5, .ref h6, .ref h7, .ref h8, .ref h9, .int 0, .int 0, .int 0, .int 0])), (h1, .inl (k0, 12, .inl (fun _ => 0))), (h2, .inl (k1, 12, .inl (fun _ => 0)))] sz) := by
  refine SP.start (Qf := Q_X7_note_1 D h0 h1 h2 h3 h4 h5 h6 h7 h8 h9 k0 k1 a0 a1 a2) (by decide) (Nat.le_of_ble_eq_true rfl) ?_
  intro p e s m below meth c ls A hx hb hr hml hown hts hlocks hname hA hP hK hD hE hl hS
  have hown : s.vm.findClass RX7 = some m.cls := hown
  have hl : lv_has ls 4 [(0, .ref h0), (1, .int a0), (2, .int a1), (3, .int a2)] := hl
  refine lv_aload_n hx hb dX7_note_0 rfl (lv_at hl 0 rfl) ?_
  refine va_get (D := D) (ci := 7) (v := .int 0) (C := RX7) (T := TX7) (N := 13) hx hb hts iX7 hown hK hP 0 rfl rfl 11 (by decide) (hts _ kw76) (fun _ h9 => h9) rfl dX7_note_1 ?_
  refine lv_bipush (v := 12) hx hb dX7_note_4 (by decide) ?_
  refine lv_icmp_lt (tgt := 11) hx hb dX7_note_6 (by decide) (fun _ => ?_) (fun c9 => absurd (by decide +kernel) c9)
  refine lv_aload_n hx hb dX7_note_11 rfl (lv_at hl 0 rfl) ?_
  refine va_get (D := D) (ci := 7) (v := .int 0) (C := RX7) (T := TX7) (N := 13) hx hb hts iX7 hown hK hP 0 rfl rfl 11 (by decide) (hts _ kw76) (fun _ h9 => h9) rfl dX7_note_12 ?_
  refine lv_if_le (tgt := 49) hx hb dX7_note_15 (by decide) (fun _ => ?_) (fun c9 => absurd (by decide +kernel) c9)
  refine lv_aload_n hx hb dX7_note_49 rfl (lv_at hl 0 rfl) ?_
  refine va_get (D := D) (ci := 7) (v := .ref h1) (C := RX7) (T := TX7) (N := 13) hx hb hts iX7 hown hK hP 0 rfl rfl 0 (by decide) (hts _ kw65) (fun _ h9 => h9) rfl dX7_note_50 ?_
  refine lv_aload_n hx hb dX7_note_53 rfl (lv_at hl 0 rfl) ?_
  refine va_get (D := D) (ci := 7) (v := .int 0) (C := RX7) (T := TX7) (N := 13) hx hb hts iX7 hown hK hP 0 rfl rfl 11 (by decide) (hts _ kw76) (fun _ h9 => h9) rfl dX7_note_54 ?_
  refine lv_iload_n hx hb dX7_note_57 rfl (lv_at hl 1 rfl) ?_
  refine va_iast hx hb hK hP hD hS 1 0 rfl rfl (vin (by decide)) dX7_note_58 (fun H locs hP hD hS => ?_)
  have hP : va_P D vwCl [(h0, .inr (7, [.ref h1, .ref h2, .ref h3, .ref h4, .ref h5, .ref h6, .ref h7, .ref h8, .ref h9, .int 0, .int 0, .int 0, .int 0])), (h1, .inl (k0, 12, .inl (upd (fun _ => 0) 0 a0))), (h2, .inl (k1, 12, .inl (fun _ => 0)))] H := hP
  have hD : va_D A [(h0, .inr (7, [.ref h1, .ref h2, .ref h3, .ref h4, .ref h5, .ref h6, .ref h7, .ref h8, .ref h9, .int 0, .int 0, .int 0, .int 0])), (h1, .inl (k0, 12, .inl (upd (fun _ => 0) 0 a0))), (h2, .inl (k1, 12, .inl (fun _ => 0)))] := hD
  refine lv_aload_n hx hb dX7_note_59 rfl (lv_at hl 0 rfl) ?_
  refine va_get (D := D) (ci := 7) (v := .ref h2) (C := RX7) (T := TX7) (N := 13) hx hb hts iX7 hown hK hP 0 rfl rfl 1 (by decide) (hts _ kw66) (fun _ h9 => h9) rfl dX7_note_60 ?_
  refine lv_aload_n hx hb dX7_note_63 rfl (lv_at hl 0 rfl) ?_
  refine va_get (D := D) (ci := 7) (v := .int 0) (C := RX7) (T := TX7) (N := 13) hx hb hts iX7 hown hK hP 0 rfl rfl 11 (by decide) (hts _ kw76) (fun _ h9 => h9) rfl dX7_note_64 ?_
  refine lv_iload_n hx hb dX7_note_67 rfl (lv_at hl 3 rfl) ?_
  refine lv_bipush (v := 24) hx hb dX7_note_68 (by decide) ?_
  refine lv_imul hx hb dX7_note_70 ?_
  refine lv_iload_n hx hb dX7_note_71 rfl (lv_at hl 2 rfl) ?_
  refine lv_iadd hx hb dX7_note_72 ?_
  refine va_iast hx hb hK hP hD hS 2 1 rfl rfl (vin (by decide)) dX7_note_73 (fun H locs hP hD hS => ?_)
  have hP : va_P D vwCl [(h0, .inr (7, [.ref h1, .ref h2, .ref h3, .ref h4, .ref h5, .ref h6, .ref h7, .ref h8, .ref h9, .int 0, .int 0, .int 0, .int 0])), (h1, .inl (k0, 12, .inl (upd (fun _ => 0) 0 a0))), (h2, .inl (k1, 12, .inl (upd (fun _ => 0) 0 ((a2 * 24) + a1))))] H := hP
  have hD : va_D A [(h0, .inr (7, [.ref h1, .ref h2, .ref h3, .ref h4, .ref h5, .ref h6, .ref h7, .ref h8, .ref h9, .int 0, .int 0, .int 0, .int 0])), (h1, .inl (k0, 12, .inl (upd (fun _ => 0) 0 a0))), (h2, .inl (k1, 12, .inl (upd (fun _ => 0) 0 ((a2 * 24) + a1))))] := hD
  refine lv_aload_n hx hb dX7_note_74 rfl (lv_at hl 0 rfl) ?_
  refine lv_dup hx hb dX7_note_75 rfl ?_
  refine va_get (D := D) (ci := 7) (v := .int 0) (C := RX7) (T := TX7) (N := 13) hx hb hts iX7 hown hK hP 0 rfl rfl 11 (by decide) (hts _ kw76) (fun _ h9 => h9) rfl dX7_note_76 ?_
  refine lv_iconst (v := 1) hx hb dX7_note_79 (by decide) ?_
  refine lv_iadd hx hb dX7_note_80 ?_
  refine lv_lit (v := 1) (by decide +kernel) ?_
  refine va_put (D := D) (ci := 7) (v := .int 1) (ty := .int) (C := RX7) (T := TX7) (N := 13) hx hb hts iX7 tyX7 tyX7_ok nmX7 hown hK hP hD hS 0 rfl rfl 11 (by decide) (hts _ kw76) (fun _ h9 => h9) rfl (tyX7_ok 11 (by decide)) rfl rfl (Nat.le_of_ble_eq_true rfl) dX7_note_81 (fun H locs hP hD hS => ?_)
  have hP : va_P D vwCl [(h0, .inr (7, [.ref h1, .ref h2, .ref h3, .ref h4, .ref h5, .ref h6, .ref h7, .ref h8, .ref h9, .int 0, .int 0, .int 1, .int 0])), (h1, .inl (k0, 12, .inl (upd (fun _ => 0) 0 a0))), (h2, .inl (k1, 12, .inl (upd (fun _ => 0) 0 ((a2 * 24) + a1))))] H := hP
  have hD : va_D A [(h0, .inr (7, [.ref h1, .ref h2, .ref h3, .ref h4, .ref h5, .ref h6, .ref h7, .ref h8, .ref h9, .int 0, .int 0, .int 1, .int 0])), (h1, .inl (k0, 12, .inl (upd (fun _ => 0) 0 a0))), (h2, .inl (k1, 12, .inl (upd (fun _ => 0) 0 ((a2 * 24) + a1))))] := hD
  refine lv_aload_n hx hb dX7_note_84 rfl (lv_at hl 0 rfl) ?_
  refine lv_iconst (v := 0) hx hb dX7_note_85 (by decide) ?_
  refine va_put (D := D) (ci := 7) (v := .int 0) (ty := .boolean) (C := RX7) (T := TX7) (N := 13) hx hb hts iX7 tyX7 tyX7_ok nmX7 hown hK hP hD hS 0 rfl rfl 10 (by decide) (hts _ kw75) (fun _ h9 => h9) rfl (tyX7_ok 10 (by decide)) rfl rfl (Nat.le_of_ble_eq_true rfl) dX7_note_86 (fun H locs hP hD hS => ?_)
  have hP : va_P D vwCl [(h0, .inr (7, [.ref h1, .ref h2, .ref h3, .ref h4, .ref h5, .ref h6, .ref h7, .ref h8, .ref h9, .int 0, .int 0, .int 1, .int 0])), (h1, .inl (k0, 12, .inl (upd (fun _ => 0) 0 a0))), (h2, .inl (k1, 12, .inl (upd (fun _ => 0) 0 ((a2 * 24) + a1))))] H := hP
  have hD : va_D A [(h0, .inr (7, [.ref h1, .ref h2, .ref h3, .ref h4, .ref h5, .ref h6, .ref h7, .ref h8, .ref h9, .int 0, .int 0, .int 1, .int 0])), (h1, .inl (k0, 12, .inl (upd (fun _ => 0) 0 a0))), (h2, .inl (k1, 12, .inl (upd (fun _ => 0) 0 ((a2 * 24) + a1))))] := hD
  refine lv_aload_n hx hb dX7_note_89 rfl (lv_at hl 0 rfl) ?_
  refine va_get (D := D) (ci := 7) (v := .int 1) (C := RX7) (T := TX7) (N := 13) hx hb hts iX7 hown hK hP 0 rfl rfl 11 (by decide) (hts _ kw76) (fun _ h9 => h9) rfl dX7_note_90 ?_
  exact q_iret () hx hb hr hlocks hP hK hD hS [0, 1, 2] [] rfl rfl rfl dX7_note_93 (Nat.le_of_ble_eq_true rfl) (Nat.le_of_ble_eq_true rfl)
abbrev w_X11_sight_1 (h0 h1 h2 h3 h4 h5 h6 h7 h8 h9 h10 h11 h12 h13 h14 h15 h16 h17 h18 h19 : Nat) (k0 k1 : ClassId) (a0 a1 a2 : Int32) (_ : Unit) : va_W := [(h0, .inr (11, [.int 0, .ref h4, .ref h5, .ref h6, .int 0, .ref h7, .int 0, .ref h1, .ref h8, .ref h9, .ref h10, .int 0, .ref h11, .int (-1), .ref h12])), (h1, .inr (7, [.ref h2, .ref h3, .ref h13, .ref h14, .ref h15, .ref h16, .ref h17, .ref h18, .ref h19, .int 0, .int 0, .int 1, .int 0])), (h2, .inl (k0, 12, .inl (upd (fun _ => 0) 0 a0))), (h3, .inl (k1, 12, .inl (upd (fun _ => 0) 0 ((a2 * 24) + a1))))]
abbrev t_X11_sight_1 (_ : Unit) : List (ClassId × FieldType) := []
abbrev Q_X11_sight_1 (D : va_G) (h0 h1 h2 h3 h4 h5 h6 h7 h8 h9 h10 h11 h12 h13 h14 h15 h16 h17 h18 h19 : Nat) (k0 k1 : ClassId) (a0 a1 a2 : Int32) (A : Nat → Prop) : Array Value → State → Outcome → State → Prop := QW (.returned (some (.int 1))) D (w_X11_sight_1 h0 h1 h2 h3 h4 h5 h6 h7 h8 h9 h10 h11 h12 h13 h14 h15 h16 h17 h18 h19 k0 k1 a0 a1 a2) t_X11_sight_1 A
set_option maxHeartbeats 4000000 in
set_option maxRecDepth 100000 in
theorem c_X11_sight_1 (l : Launch) (D : va_G) (h0 h1 h2 h3 h4 h5 h6 h7 h8 h9 h10 h11 h12 h13 h14 h15 h16 h17 h18 h19 : Nat) (k0 k1 : ClassId) (a0 a1 a2 : Int32) (sz : Nat) (v0 : pHour a0) (v1 : pSq a1 a2) : Met l yX11_sight (.code yX11_sight cX11_sight 4 (some .int) :: wT) ({ frames := 2, cells := 0, slots := 0, locals := 43 } : Room) (SP D [.ref h0, .int a0, .int a1, .int a2] [(h0, .inr (11, [.int 0, .ref h4, .ref h5, .ref h6, .int 0, .ref h7, .int 0, .ref h1, .ref h8, .ref h9, .ref h10, .int 0, .ref h11, .int (-1), .ref h12])), (h1, .inr (7, [.ref h2, .ref h3, .ref h13, .ref h14, .ref h15, .ref h16, .ref h17, .ref h18, .ref h19, .int 0, .int 0, .int 0, .int 0])), (h2, .inl (k0, 12, .inl (fun _ => 0))), (h3, .inl (k1, 12, .inl (fun _ => 0)))] [(k0, .int), (k1, .int)] sz) (Q_X11_sight_1 D h0 h1 h2 h3 h4 h5 h6 h7 h8 h9 h10 h11 h12 h13 h14 h15 h16 h17 h18 h19 k0 k1 a0 a1 a2 (va_A [(h0, .inr (11, [.int 0, .ref h4, .ref h5, .ref h6, .int 0, .ref h7, .int 0, .ref h1, .ref h8, .ref h9, .ref h10, .int 0, .ref h11, .int (-1), .ref h12])), (h1, .inr (7, [.ref h2, .ref h3, .ref h13, .ref h14, .ref h15, .ref h16, .ref h17, .ref h18, .ref h19, .int 0, .int 0, .int 0, .int 0])), (h2, .inl (k0, 12, .inl (fun _ => 0))), (h3, .inl (k1, 12, .inl (fun _ => 0)))] sz)) 0 0 (va_A [(h0, .inr (11, [.int 0, .ref h4, .ref h5, .ref h6, .int 0, .ref h7, .int 0, .ref h1, .ref h8, .ref h9, .ref h10, .int 0, .ref h11, .int (-1), .ref h12])), (h1, .inr (7, [.ref h2, .ref h3, .ref h13, .ref h14, .ref h15, .ref h16, .ref h17, .ref h18, .ref h19, .int 0, .int 0, .int 0, .int 0])), (h2, .inl (k0, 12, .inl (fun _ => 0))), (h3, .inl (k1, 12, .inl (fun _ => 0)))] sz) := by
  refine SP.start (Qf := Q_X11_sight_1 D h0 h1 h2 h3 h4 h5 h6 h7 h8 h9 h10 h11 h12 h13 h14 h15 h16 h17 h18 h19 k0 k1 a0 a1 a2) (by decide) (Nat.le_of_ble_eq_true rfl) ?_
  intro p e s m below meth c ls A hx hb hr hml hown hts hlocks hname hA hP hK hD hE hl hS
  have hown : s.vm.findClass RX11 = some m.cls := hown
  have hl : lv_has ls 4 [(0, .ref h0), (1, .int a0), (2, .int a1), (3, .int a2)] := hl
  refine lv_iload_n hx hb dX11_sight_0 rfl (lv_at hl 1 rfl) ?_
  refine q_runP (va_runS (As := [.int a0]) (rest := []) ⟨hx, hb, hml, hown, hts⟩ (c_isHour l a0) (cwS 1 hts (gTS kw0 kw1 kw2 kw3) rfl rfl rfl hd0 ⟨(Nat.le_of_ble_eq_true rfl), (Nat.le_of_ble_eq_true rfl)⟩) preEq rfl rfl hl.1 rfl (lv_room (Nat.le_of_ble_eq_true rfl)) dX11_sight_1 ⟨(Nat.le_of_ble_eq_true rfl), (Nat.le_of_ble_eq_true rfl)⟩) ?_
  refine lv_if_eq (tgt := 19) hx hb dX11_sight_4 (by decide) (fun c9 => absurd v0 (bz_n c9)) (fun _ => ?_)
  refine lv_iload_n hx hb dX11_sight_7 rfl (lv_at hl 2 rfl) ?_
  refine lv_iload_n hx hb dX11_sight_8 rfl (lv_at hl 3 rfl) ?_
  refine q_runP (va_runS (As := [.int a1, .int a2]) (rest := []) ⟨hx, hb, hml, hown, hts⟩ (c_isSquare l a1 a2) (cwS 2 hts (gTS kw374 kw375 kw376 kw3) rfl rfl rfl hd35 ⟨(Nat.le_of_ble_eq_true rfl), (Nat.le_of_ble_eq_true rfl)⟩) preEq rfl rfl hl.1 rfl (lv_room (Nat.le_of_ble_eq_true rfl)) dX11_sight_9 ⟨(Nat.le_of_ble_eq_true rfl), (Nat.le_of_ble_eq_true rfl)⟩) ?_
  refine lv_if_eq (tgt := 19) hx hb dX11_sight_12 (by decide) (fun c9 => absurd v1 (bz_n c9)) (fun _ => ?_)
  refine lv_iconst (v := 1) hx hb dX11_sight_15 (by decide) ?_
  refine lv_goto (tgt := 20) hx hb dX11_sight_16 (by decide) ?_
  refine q_runPv (va_runS (As := [.int 1]) (rest := []) ⟨hx, hb, hml, hown, hts⟩ (c_require_1 l) (cwS 1 hts (gTS kw242 kw243 kw244 kw3) rfl rfl rfl hd14 ⟨(Nat.le_of_ble_eq_true rfl), (Nat.le_of_ble_eq_true rfl)⟩) preEq rfl rfl hl.1 rfl (lv_room (Nat.le_of_ble_eq_true rfl)) dX11_sight_20 ⟨(Nat.le_of_ble_eq_true rfl), (Nat.le_of_ble_eq_true rfl)⟩) ?_
  refine lv_aload_n hx hb dX11_sight_23 rfl (lv_at hl 0 rfl) ?_
  refine va_get (D := D) (ci := 11) (v := .ref h1) (C := RX11) (T := TX11) (N := 15) hx hb hts iX11 hown hK hP 0 rfl rfl 7 (by decide) (hts _ kw81) (fun _ h9 => h9) rfl dX11_sight_24 ?_
  refine lv_iload_n hx hb dX11_sight_27 rfl (lv_at hl 1 rfl) ?_
  refine lv_iload_n hx hb dX11_sight_28 rfl (lv_at hl 2 rfl) ?_
  refine lv_iload_n hx hb dX11_sight_29 rfl (lv_at hl 3 rfl) ?_
  refine q_run (D := D) (w1 := w_X7_note_1 h1 h2 h3 h13 h14 h15 h16 h17 h18 h19 k0 k1 a0 a1 a2) (t1 := t_X7_note_1) (o := (some (.int 1))) (ws := [(h0, .inr (11, [.int 0, .ref h4, .ref h5, .ref h6, .int 0, .ref h7, .int 0, .ref h1, .ref h8, .ref h9, .ref h10, .int 0, .ref h11, .int (-1), .ref h12])), (h1, .inr (7, [.ref h2, .ref h3, .ref h13, .ref h14, .ref h15, .ref h16, .ref h17, .ref h18, .ref h19, .int 0, .int 0, .int 0, .int 0])), (h2, .inl (k0, 12, .inl (fun _ => 0))), (h3, .inl (k1, 12, .inl (fun _ => 0)))]) (wc := [(h1, .inr (7, [.ref h2, .ref h3, .ref h13, .ref h14, .ref h15, .ref h16, .ref h17, .ref h18, .ref h19, .int 0, .int 0, .int 0, .int 0])), (h2, .inl (k0, 12, .inl (fun _ => 0))), (h3, .inl (k1, 12, .inl (fun _ => 0)))]) (wr := [(h0, .inr (11, [.int 0, .ref h4, .ref h5, .ref h6, .int 0, .ref h7, .int 0, .ref h1, .ref h8, .ref h9, .ref h10, .int 0, .ref h11, .int (-1), .ref h12]))]) (va_runV (C := RX7) (b := h1) (As := [.int a0, .int a1, .int a2]) (rest := []) ⟨hx, hb, hml, hown, hts⟩ (c_X7_note_1 l D h1 h2 h3 h13 h14 h15 h16 h17 h18 h19 k0 k1 a0 a1 a2 s.heap.size) (cwV 3 hts (gTV kw377 kw378 kw379 kw380 kw63) rfl rfl rfl hd36 ⟨(Nat.le_of_ble_eq_true rfl), (Nat.le_of_ble_eq_true rfl)⟩) ⟨SP.blind, q_recv (ws := [(h0, .inr (11, [.int 0, .ref h4, .ref h5, .ref h6, .int 0, .ref h7, .int 0, .ref h1, .ref h8, .ref h9, .ref h10, .int 0, .ref h11, .int (-1), .ref h12])), (h1, .inr (7, [.ref h2, .ref h3, .ref h13, .ref h14, .ref h15, .ref h16, .ref h17, .ref h18, .ref h19, .int 0, .int 0, .int 0, .int 0])), (h2, .inl (k0, 12, .inl (fun _ => 0))), (h3, .inl (k1, 12, .inl (fun _ => 0)))]) (wc := []) (r := (RX7, TX7, 13)) (ci := 7) (i := 1) hP hK rfl rfl, (SP.pre hP hK hD hE [1, 2, 3] [0, 1] rfl rfl rfl).2⟩ rfl rfl hl.1 rfl (lv_room (Nat.le_of_ble_eq_true rfl)) dX11_sight_30 ⟨(Nat.le_of_ble_eq_true rfl), (Nat.le_of_ble_eq_true rfl)⟩) hP hK hD hS hA [1, 2, 3] [0] rfl rfl rfl (by decide) (fun u H locs hP hK hD hS => ?_)
  refine W.eq (g2 := F0 m 33 ls [.int 1]) rfl ?_
  refine W.cs (cells' := 0) (slots' := 0) rfl rfl ?_
  have hP : va_P D vwCl [(h0, .inr (11, [.int 0, .ref h4, .ref h5, .ref h6, .int 0, .ref h7, .int 0, .ref h1, .ref h8, .ref h9, .ref h10, .int 0, .ref h11, .int (-1), .ref h12])), (h1, .inr (7, [.ref h2, .ref h3, .ref h13, .ref h14, .ref h15, .ref h16, .ref h17, .ref h18, .ref h19, .int 0, .int 0, .int 1, .int 0])), (h2, .inl (k0, 12, .inl (upd (fun _ => 0) 0 a0))), (h3, .inl (k1, 12, .inl (upd (fun _ => 0) 0 ((a2 * 24) + a1))))] H := hP
  have hD : va_D A [(h0, .inr (11, [.int 0, .ref h4, .ref h5, .ref h6, .int 0, .ref h7, .int 0, .ref h1, .ref h8, .ref h9, .ref h10, .int 0, .ref h11, .int (-1), .ref h12])), (h1, .inr (7, [.ref h2, .ref h3, .ref h13, .ref h14, .ref h15, .ref h16, .ref h17, .ref h18, .ref h19, .int 0, .int 0, .int 1, .int 0])), (h2, .inl (k0, 12, .inl (upd (fun _ => 0) 0 a0))), (h3, .inl (k1, 12, .inl (upd (fun _ => 0) 0 ((a2 * 24) + a1))))] := hD
  have hK : va_K D vwCl [(k0, .int), (k1, .int)] s := hK
  exact q_iret () hx hb hr hlocks hP hK hD hS [0, 1, 2, 3] [] rfl rfl rfl dX11_sight_33 (Nat.le_of_ble_eq_true rfl) (Nat.le_of_ble_eq_true rfl)
set_option maxHeartbeats 4000000 in
set_option maxRecDepth 100000 in
theorem c_X11_sight_2 (l : Launch) (hst : l.stackTraces = false) (D : va_G) (h0 : Nat) (a0 a1 a2 : Int32) (sz : Nat) (v0 : ¬ vSight a0 a1 a2) : vx_Met l yX11_sight (.code yX11_sight cX11_sight 4 (some .int) :: wT) ({ frames := 7, cells := 1, slots := 6, locals := 103 } : Room) (SPx D [.ref h0, .int a0, .int a1, .int a2] [] [] sz) QNo (XQ "java/lang/IllegalArgumentException" (va_A [] sz)) 1 6 (va_A [] sz) := by
  refine SPx.start (by decide) (Nat.le_of_ble_eq_true rfl) ?_
  intro p e s m below meth c ls A hx hb hr hml hown hts hlocks htab hA hP hK hD hE hZ hl hS
  have hown : s.vm.findClass RX11 = some m.cls := hown
  have hl : lv_has ls 4 [(0, .ref h0), (1, .int a0), (2, .int a1), (3, .int a2)] := hl
  refine lv_iload_n hx hb dX11_sight_0 rfl (lv_at hl 1 rfl) ?_
  refine q_runP (va_runS (As := [.int a0]) (rest := []) ⟨hx, hb, hml, hown, hts⟩ (c_isHour l a0) (cwS 1 hts (gTS kw0 kw1 kw2 kw3) rfl rfl rfl hd0 ⟨(Nat.le_of_ble_eq_true rfl), (Nat.le_of_ble_eq_true rfl)⟩) preEq rfl rfl hl.1 rfl (lv_room (Nat.le_of_ble_eq_true rfl)) dX11_sight_1 ⟨(Nat.le_of_ble_eq_true rfl), (Nat.le_of_ble_eq_true rfl)⟩) ?_
  refine lv_if_eq (tgt := 19) hx hb dX11_sight_4 (by decide) (fun c1 => ?_) (fun c1 => ?_)
  · have c1 := bz_n c1
    refine lv_iconst (v := 0) hx hb dX11_sight_19 (by decide) ?_
    exact q_xout (B := va_A [] s.heap.size) (vx_runS (As := [.int 0]) (rest := []) ⟨hx, hb, hml, hown, hts⟩ (c_X11_require_1 l hst D s.heap.size) (cwS 1 hts (gTS kw242 kw243 kw244 kw3) rfl rfl rfl hd14 ⟨(Nat.le_of_ble_eq_true rfl), (Nat.le_of_ble_eq_true rfl)⟩) (SPx.pre hP hK hD hE hZ hS hA [] [] rfl rfl rfl) rfl rfl hl.1 rfl (lv_room (Nat.le_of_ble_eq_true rfl)) dX11_sight_20 ⟨(Nat.le_of_ble_eq_true rfl), (Nat.le_of_ble_eq_true rfl)⟩) hS (va_free (wc := []) hD hS hA [] rfl) htab hlocks (Nat.le_of_ble_eq_true rfl) (Nat.le_of_ble_eq_true rfl)
  · have c1 := bz_p c1
    refine lv_iload_n hx hb dX11_sight_7 rfl (lv_at hl 2 rfl) ?_
    refine lv_iload_n hx hb dX11_sight_8 rfl (lv_at hl 3 rfl) ?_
    refine q_runP (va_runS (As := [.int a1, .int a2]) (rest := []) ⟨hx, hb, hml, hown, hts⟩ (c_isSquare l a1 a2) (cwS 2 hts (gTS kw374 kw375 kw376 kw3) rfl rfl rfl hd35 ⟨(Nat.le_of_ble_eq_true rfl), (Nat.le_of_ble_eq_true rfl)⟩) preEq rfl rfl hl.1 rfl (lv_room (Nat.le_of_ble_eq_true rfl)) dX11_sight_9 ⟨(Nat.le_of_ble_eq_true rfl), (Nat.le_of_ble_eq_true rfl)⟩) ?_
    refine lv_if_eq (tgt := 19) hx hb dX11_sight_12 (by decide) (fun c2 => ?_) (fun c2 => ?_)
    · have c2 := bz_n c2
      refine lv_iconst (v := 0) hx hb dX11_sight_19 (by decide) ?_
      exact q_xout (B := va_A [] s.heap.size) (vx_runS (As := [.int 0]) (rest := []) ⟨hx, hb, hml, hown, hts⟩ (c_X11_require_1 l hst D s.heap.size) (cwS 1 hts (gTS kw242 kw243 kw244 kw3) rfl rfl rfl hd14 ⟨(Nat.le_of_ble_eq_true rfl), (Nat.le_of_ble_eq_true rfl)⟩) (SPx.pre hP hK hD hE hZ hS hA [] [] rfl rfl rfl) rfl rfl hl.1 rfl (lv_room (Nat.le_of_ble_eq_true rfl)) dX11_sight_20 ⟨(Nat.le_of_ble_eq_true rfl), (Nat.le_of_ble_eq_true rfl)⟩) hS (va_free (wc := []) hD hS hA [] rfl) htab hlocks (Nat.le_of_ble_eq_true rfl) (Nat.le_of_ble_eq_true rfl)
    · have c2 := bz_p c2
      exact absurd (show vSight a0 a1 a2 from ⟨c1, c2⟩) v0
abbrev w_X3_write_1 (h0 h1 h2 : Nat) (k0 k1 : ClassId) (a0 a1 : Int32) (_ : Unit) : va_W := [(h0, .inr (3, [.ref h1, .ref h2, .int 1])), (h1, .inl (k0, 30, .inl (upd (fun _ => 0) 0 a0))), (h2, .inl (k1, 30, .inl (upd (fun _ => 0) 0 a1)))]
abbrev t_X3_write_1 (_ : Unit) : List (ClassId × FieldType) := []
abbrev Q_X3_write_1 (D : va_G) (h0 h1 h2 : Nat) (k0 k1 : ClassId) (a0 a1 : Int32) (A : Nat → Prop) : Array Value → State → Outcome → State → Prop := QW (.returned (some (.int 1))) D (w_X3_write_1 h0 h1 h2 k0 k1 a0 a1) t_X3_write_1 A
set_option maxHeartbeats 4000000 in
set_option maxRecDepth 100000 in
theorem c_X3_write_1 (l : Launch) (D : va_G) (h0 h1 h2 : Nat) (k0 k1 : ClassId) (a0 a1 : Int32) (sz : Nat) : Met l yX3_write (.code yX3_write cX3_write 3 (some .int) :: wT) ({ frames := 0, cells := 0, slots := 0, locals := 0 } : Room) (SP D [.ref h0, .int a0, .int a1] [(h0, .inr (3, [.ref h1, .ref h2, .int 0])), (h1, .inl (k0, 30, .inl (fun _ => 0))), (h2, .inl (k1, 30, .inl (fun _ => 0)))] [(k0, .int), (k1, .int)] sz) (Q_X3_write_1 D h0 h1 h2 k0 k1 a0 a1 (va_A [(h0, .inr (3, [.ref h1, .ref h2, .int 0])), (h1, .inl (k0, 30, .inl (fun _ => 0))), (h2, .inl (k1, 30, .inl (fun _ => 0)))] sz)) 0 0 (va_A [(h0, .inr (3, [.ref h1, .ref h2, .int 0])), (h1, .inl (k0, 30, .inl (fun _ => 0))), (h2, .inl (k1, 30, .inl (fun _ => 0)))] sz) := by
  refine SP.start (Qf := Q_X3_write_1 D h0 h1 h2 k0 k1 a0 a1) (by decide) (Nat.le_of_ble_eq_true rfl) ?_
  intro p e s m below meth c ls A hx hb hr hml hown hts hlocks hname hA hP hK hD hE hl hS
  have hown : s.vm.findClass RX3 = some m.cls := hown
  have hl : lv_has ls 3 [(0, .ref h0), (1, .int a0), (2, .int a1)] := hl
  refine lv_aload_n hx hb dX3_write_0 rfl (lv_at hl 0 rfl) ?_
  refine va_get (D := D) (ci := 3) (v := .int 0) (C := RX3) (T := TX3) (N := 3) hx hb hts iX3 hown hK hP 0 rfl rfl 2 (by decide) (hts _ kw88) (fun _ h9 => h9) rfl dX3_write_1 ?_
  refine lv_bipush (v := 30) hx hb dX3_write_4 (by decide) ?_
  refine lv_icmp_lt (tgt := 11) hx hb dX3_write_6 (by decide) (fun _ => ?_) (fun c9 => absurd (by decide +kernel) c9)
  refine lv_aload_n hx hb dX3_write_11 rfl (lv_at hl 0 rfl) ?_
  refine va_get (D := D) (ci := 3) (v := .ref h1) (C := RX3) (T := TX3) (N := 3) hx hb hts iX3 hown hK hP 0 rfl rfl 0 (by decide) (hts _ kw86) (fun _ h9 => h9) rfl dX3_write_12 ?_
  refine lv_aload_n hx hb dX3_write_15 rfl (lv_at hl 0 rfl) ?_
  refine va_get (D := D) (ci := 3) (v := .int 0) (C := RX3) (T := TX3) (N := 3) hx hb hts iX3 hown hK hP 0 rfl rfl 2 (by decide) (hts _ kw88) (fun _ h9 => h9) rfl dX3_write_16 ?_
  refine lv_iload_n hx hb dX3_write_19 rfl (lv_at hl 1 rfl) ?_
  refine va_iast hx hb hK hP hD hS 1 0 rfl rfl (vin (by decide)) dX3_write_20 (fun H locs hP hD hS => ?_)
  have hP : va_P D vwCl [(h0, .inr (3, [.ref h1, .ref h2, .int 0])), (h1, .inl (k0, 30, .inl (upd (fun _ => 0) 0 a0))), (h2, .inl (k1, 30, .inl (fun _ => 0)))] H := hP
  have hD : va_D A [(h0, .inr (3, [.ref h1, .ref h2, .int 0])), (h1, .inl (k0, 30, .inl (upd (fun _ => 0) 0 a0))), (h2, .inl (k1, 30, .inl (fun _ => 0)))] := hD
  refine lv_aload_n hx hb dX3_write_21 rfl (lv_at hl 0 rfl) ?_
  refine va_get (D := D) (ci := 3) (v := .ref h2) (C := RX3) (T := TX3) (N := 3) hx hb hts iX3 hown hK hP 0 rfl rfl 1 (by decide) (hts _ kw87) (fun _ h9 => h9) rfl dX3_write_22 ?_
  refine lv_aload_n hx hb dX3_write_25 rfl (lv_at hl 0 rfl) ?_
  refine va_get (D := D) (ci := 3) (v := .int 0) (C := RX3) (T := TX3) (N := 3) hx hb hts iX3 hown hK hP 0 rfl rfl 2 (by decide) (hts _ kw88) (fun _ h9 => h9) rfl dX3_write_26 ?_
  refine lv_iload_n hx hb dX3_write_29 rfl (lv_at hl 2 rfl) ?_
  refine va_iast hx hb hK hP hD hS 2 1 rfl rfl (vin (by decide)) dX3_write_30 (fun H locs hP hD hS => ?_)
  have hP : va_P D vwCl [(h0, .inr (3, [.ref h1, .ref h2, .int 0])), (h1, .inl (k0, 30, .inl (upd (fun _ => 0) 0 a0))), (h2, .inl (k1, 30, .inl (upd (fun _ => 0) 0 a1)))] H := hP
  have hD : va_D A [(h0, .inr (3, [.ref h1, .ref h2, .int 0])), (h1, .inl (k0, 30, .inl (upd (fun _ => 0) 0 a0))), (h2, .inl (k1, 30, .inl (upd (fun _ => 0) 0 a1)))] := hD
  refine lv_aload_n hx hb dX3_write_31 rfl (lv_at hl 0 rfl) ?_
  refine lv_dup hx hb dX3_write_32 rfl ?_
  refine va_get (D := D) (ci := 3) (v := .int 0) (C := RX3) (T := TX3) (N := 3) hx hb hts iX3 hown hK hP 0 rfl rfl 2 (by decide) (hts _ kw88) (fun _ h9 => h9) rfl dX3_write_33 ?_
  refine lv_iconst (v := 1) hx hb dX3_write_36 (by decide) ?_
  refine lv_iadd hx hb dX3_write_37 ?_
  refine lv_lit (v := 1) (by decide +kernel) ?_
  refine va_put (D := D) (ci := 3) (v := .int 1) (ty := .int) (C := RX3) (T := TX3) (N := 3) hx hb hts iX3 tyX3 tyX3_ok nmX3 hown hK hP hD hS 0 rfl rfl 2 (by decide) (hts _ kw88) (fun _ h9 => h9) rfl (tyX3_ok 2 (by decide)) rfl rfl (Nat.le_of_ble_eq_true rfl) dX3_write_38 (fun H locs hP hD hS => ?_)
  have hP : va_P D vwCl [(h0, .inr (3, [.ref h1, .ref h2, .int 1])), (h1, .inl (k0, 30, .inl (upd (fun _ => 0) 0 a0))), (h2, .inl (k1, 30, .inl (upd (fun _ => 0) 0 a1)))] H := hP
  have hD : va_D A [(h0, .inr (3, [.ref h1, .ref h2, .int 1])), (h1, .inl (k0, 30, .inl (upd (fun _ => 0) 0 a0))), (h2, .inl (k1, 30, .inl (upd (fun _ => 0) 0 a1)))] := hD
  refine lv_aload_n hx hb dX3_write_41 rfl (lv_at hl 0 rfl) ?_
  refine va_get (D := D) (ci := 3) (v := .int 1) (C := RX3) (T := TX3) (N := 3) hx hb hts iX3 hown hK hP 0 rfl rfl 2 (by decide) (hts _ kw88) (fun _ h9 => h9) rfl dX3_write_42 ?_
  exact q_iret () hx hb hr hlocks hP hK hD hS [0, 1, 2] [] rfl rfl rfl dX3_write_45 (Nat.le_of_ble_eq_true rfl) (Nat.le_of_ble_eq_true rfl)
abbrev w_X11_log_1 (h0 h1 h2 h3 h4 h5 h6 h7 h8 h9 h10 h11 h12 : Nat) (k0 k1 : ClassId) (a0 a1 : Int32) (_ : Unit) : va_W := [(h0, .inr (11, [.int 0, .ref h4, .ref h5, .ref h6, .int 0, .ref h7, .int 0, .ref h8, .ref h1, .ref h9, .ref h10, .int 0, .ref h11, .int (-1), .ref h12])), (h1, .inr (3, [.ref h2, .ref h3, .int 1])), (h2, .inl (k0, 30, .inl (upd (fun _ => 0) 0 a0))), (h3, .inl (k1, 30, .inl (upd (fun _ => 0) 0 a1)))]
abbrev t_X11_log_1 (_ : Unit) : List (ClassId × FieldType) := []
abbrev Q_X11_log_1 (D : va_G) (h0 h1 h2 h3 h4 h5 h6 h7 h8 h9 h10 h11 h12 : Nat) (k0 k1 : ClassId) (a0 a1 : Int32) (A : Nat → Prop) : Array Value → State → Outcome → State → Prop := QW (.returned (some (.int 1))) D (w_X11_log_1 h0 h1 h2 h3 h4 h5 h6 h7 h8 h9 h10 h11 h12 k0 k1 a0 a1) t_X11_log_1 A
set_option maxHeartbeats 4000000 in
set_option maxRecDepth 100000 in
theorem c_X11_log_1 (l : Launch) (D : va_G) (h0 h1 h2 h3 h4 h5 h6 h7 h8 h9 h10 h11 h12 : Nat) (k0 k1 : ClassId) (a0 a1 : Int32) (sz : Nat) (v0 : pIn a0 0 10000) (v1 : pIn a1 0 500) : Met l yX11_log (.code yX11_log cX11_log 3 (some .int) :: wT) ({ frames := 1, cells := 0, slots := 0, locals := 22 } : Room) (SP D [.ref h0, .int a0, .int a1] [(h0, .inr (11, [.int 0, .ref h4, .ref h5, .ref h6, .int 0, .ref h7, .int 0, .ref h8, .ref h1, .ref h9, .ref h10, .int 0, .ref h11, .int (-1), .ref h12])), (h1, .inr (3, [.ref h2, .ref h3, .int 0])), (h2, .inl (k0, 30, .inl (fun _ => 0))), (h3, .inl (k1, 30, .inl (fun _ => 0)))] [(k0, .int), (k1, .int)] sz) (Q_X11_log_1 D h0 h1 h2 h3 h4 h5 h6 h7 h8 h9 h10 h11 h12 k0 k1 a0 a1 (va_A [(h0, .inr (11, [.int 0, .ref h4, .ref h5, .ref h6, .int 0, .ref h7, .int 0, .ref h8, .ref h1, .ref h9, .ref h10, .int 0, .ref h11, .int (-1), .ref h12])), (h1, .inr (3, [.ref h2, .ref h3, .int 0])), (h2, .inl (k0, 30, .inl (fun _ => 0))), (h3, .inl (k1, 30, .inl (fun _ => 0)))] sz)) 0 0 (va_A [(h0, .inr (11, [.int 0, .ref h4, .ref h5, .ref h6, .int 0, .ref h7, .int 0, .ref h8, .ref h1, .ref h9, .ref h10, .int 0, .ref h11, .int (-1), .ref h12])), (h1, .inr (3, [.ref h2, .ref h3, .int 0])), (h2, .inl (k0, 30, .inl (fun _ => 0))), (h3, .inl (k1, 30, .inl (fun _ => 0)))] sz) := by
  refine SP.start (Qf := Q_X11_log_1 D h0 h1 h2 h3 h4 h5 h6 h7 h8 h9 h10 h11 h12 k0 k1 a0 a1) (by decide) (Nat.le_of_ble_eq_true rfl) ?_
  intro p e s m below meth c ls A hx hb hr hml hown hts hlocks hname hA hP hK hD hE hl hS
  have hown : s.vm.findClass RX11 = some m.cls := hown
  have hl : lv_has ls 3 [(0, .ref h0), (1, .int a0), (2, .int a1)] := hl
  refine lv_iload_n hx hb dX11_log_0 rfl (lv_at hl 1 rfl) ?_
  refine lv_iconst (v := 0) hx hb dX11_log_1 (by decide) ?_
  refine lv_sipush (v := 10000) hx hb dX11_log_2 (by decide +kernel) ?_
  refine q_runP (va_runS (As := [.int a0, .int 0, .int 10000]) (rest := []) ⟨hx, hb, hml, hown, hts⟩ (c_isWithin l a0 0 10000) (cwS 3 hts (gTS kw4 kw5 kw6 kw3) rfl rfl rfl hd1 ⟨(Nat.le_of_ble_eq_true rfl), (Nat.le_of_ble_eq_true rfl)⟩) preEq rfl rfl hl.1 rfl (lv_room (Nat.le_of_ble_eq_true rfl)) dX11_log_5 ⟨(Nat.le_of_ble_eq_true rfl), (Nat.le_of_ble_eq_true rfl)⟩) ?_
  refine lv_if_eq (tgt := 26) hx hb dX11_log_8 (by decide) (fun c9 => absurd v0 (bz_n c9)) (fun _ => ?_)
  refine lv_iload_n hx hb dX11_log_11 rfl (lv_at hl 2 rfl) ?_
  refine lv_iconst (v := 0) hx hb dX11_log_12 (by decide) ?_
  refine lv_sipush (v := 500) hx hb dX11_log_13 (by decide +kernel) ?_
  refine q_runP (va_runS (As := [.int a1, .int 0, .int 500]) (rest := []) ⟨hx, hb, hml, hown, hts⟩ (c_isWithin l a1 0 500) (cwS 3 hts (gTS kw4 kw5 kw6 kw3) rfl rfl rfl hd1 ⟨(Nat.le_of_ble_eq_true rfl), (Nat.le_of_ble_eq_true rfl)⟩) preEq rfl rfl hl.1 rfl (lv_room (Nat.le_of_ble_eq_true rfl)) dX11_log_16 ⟨(Nat.le_of_ble_eq_true rfl), (Nat.le_of_ble_eq_true rfl)⟩) ?_
  refine lv_if_eq (tgt := 26) hx hb dX11_log_19 (by decide) (fun c9 => absurd v1 (bz_n c9)) (fun _ => ?_)
  refine lv_iconst (v := 1) hx hb dX11_log_22 (by decide) ?_
  refine lv_goto (tgt := 27) hx hb dX11_log_23 (by decide) ?_
  refine q_runPv (va_runS (As := [.int 1]) (rest := []) ⟨hx, hb, hml, hown, hts⟩ (c_require_1 l) (cwS 1 hts (gTS kw242 kw243 kw244 kw3) rfl rfl rfl hd14 ⟨(Nat.le_of_ble_eq_true rfl), (Nat.le_of_ble_eq_true rfl)⟩) preEq rfl rfl hl.1 rfl (lv_room (Nat.le_of_ble_eq_true rfl)) dX11_log_27 ⟨(Nat.le_of_ble_eq_true rfl), (Nat.le_of_ble_eq_true rfl)⟩) ?_
  refine lv_aload_n hx hb dX11_log_30 rfl (lv_at hl 0 rfl) ?_
  refine va_get (D := D) (ci := 11) (v := .ref h1) (C := RX11) (T := TX11) (N := 15) hx hb hts iX11 hown hK hP 0 rfl rfl 8 (by decide) (hts _ kw92) (fun _ h9 => h9) rfl dX11_log_31 ?_
  refine lv_iload_n hx hb dX11_log_34 rfl (lv_at hl 1 rfl) ?_
  refine lv_iload_n hx hb dX11_log_35 rfl (lv_at hl 2 rfl) ?_
  refine q_run (D := D) (w1 := w_X3_write_1 h1 h2 h3 k0 k1 a0 a1) (t1 := t_X3_write_1) (o := (some (.int 1))) (ws := [(h0, .inr (11, [.int 0, .ref h4, .ref h5, .ref h6, .int 0, .ref h7, .int 0, .ref h8, .ref h1, .ref h9, .ref h10, .int 0, .ref h11, .int (-1), .ref h12])), (h1, .inr (3, [.ref h2, .ref h3, .int 0])), (h2, .inl (k0, 30, .inl (fun _ => 0))), (h3, .inl (k1, 30, .inl (fun _ => 0)))]) (wc := [(h1, .inr (3, [.ref h2, .ref h3, .int 0])), (h2, .inl (k0, 30, .inl (fun _ => 0))), (h3, .inl (k1, 30, .inl (fun _ => 0)))]) (wr := [(h0, .inr (11, [.int 0, .ref h4, .ref h5, .ref h6, .int 0, .ref h7, .int 0, .ref h8, .ref h1, .ref h9, .ref h10, .int 0, .ref h11, .int (-1), .ref h12]))]) (va_runV (C := RX3) (b := h1) (As := [.int a0, .int a1]) (rest := []) ⟨hx, hb, hml, hown, hts⟩ (c_X3_write_1 l D h1 h2 h3 k0 k1 a0 a1 s.heap.size) (cwV 2 hts (gTV kw381 kw382 kw383 kw384 kw84) rfl rfl rfl hd37 ⟨(Nat.le_of_ble_eq_true rfl), (Nat.le_of_ble_eq_true rfl)⟩) ⟨SP.blind, q_recv (ws := [(h0, .inr (11, [.int 0, .ref h4, .ref h5, .ref h6, .int 0, .ref h7, .int 0, .ref h8, .ref h1, .ref h9, .ref h10, .int 0, .ref h11, .int (-1), .ref h12])), (h1, .inr (3, [.ref h2, .ref h3, .int 0])), (h2, .inl (k0, 30, .inl (fun _ => 0))), (h3, .inl (k1, 30, .inl (fun _ => 0)))]) (wc := []) (r := (RX3, TX3, 3)) (ci := 3) (i := 1) hP hK rfl rfl, (SP.pre hP hK hD hE [1, 2, 3] [0, 1] rfl rfl rfl).2⟩ rfl rfl hl.1 rfl (lv_room (Nat.le_of_ble_eq_true rfl)) dX11_log_36 ⟨(Nat.le_of_ble_eq_true rfl), (Nat.le_of_ble_eq_true rfl)⟩) hP hK hD hS hA [1, 2, 3] [0] rfl rfl rfl (by decide) (fun u H locs hP hK hD hS => ?_)
  refine W.eq (g2 := F0 m 39 ls [.int 1]) rfl ?_
  refine W.cs (cells' := 0) (slots' := 0) rfl rfl ?_
  have hP : va_P D vwCl [(h0, .inr (11, [.int 0, .ref h4, .ref h5, .ref h6, .int 0, .ref h7, .int 0, .ref h8, .ref h1, .ref h9, .ref h10, .int 0, .ref h11, .int (-1), .ref h12])), (h1, .inr (3, [.ref h2, .ref h3, .int 1])), (h2, .inl (k0, 30, .inl (upd (fun _ => 0) 0 a0))), (h3, .inl (k1, 30, .inl (upd (fun _ => 0) 0 a1)))] H := hP
  have hD : va_D A [(h0, .inr (11, [.int 0, .ref h4, .ref h5, .ref h6, .int 0, .ref h7, .int 0, .ref h8, .ref h1, .ref h9, .ref h10, .int 0, .ref h11, .int (-1), .ref h12])), (h1, .inr (3, [.ref h2, .ref h3, .int 1])), (h2, .inl (k0, 30, .inl (upd (fun _ => 0) 0 a0))), (h3, .inl (k1, 30, .inl (upd (fun _ => 0) 0 a1)))] := hD
  have hK : va_K D vwCl [(k0, .int), (k1, .int)] s := hK
  exact q_iret () hx hb hr hlocks hP hK hD hS [0, 1, 2, 3] [] rfl rfl rfl dX11_log_39 (Nat.le_of_ble_eq_true rfl) (Nat.le_of_ble_eq_true rfl)
set_option maxHeartbeats 4000000 in
set_option maxRecDepth 100000 in
theorem c_X11_log_2 (l : Launch) (hst : l.stackTraces = false) (D : va_G) (h0 : Nat) (a0 a1 : Int32) (sz : Nat) (v0 : ¬ vLog a0 a1) : vx_Met l yX11_log (.code yX11_log cX11_log 3 (some .int) :: wT) ({ frames := 7, cells := 1, slots := 6, locals := 103 } : Room) (SPx D [.ref h0, .int a0, .int a1] [] [] sz) QNo (XQ "java/lang/IllegalArgumentException" (va_A [] sz)) 1 6 (va_A [] sz) := by
  refine SPx.start (by decide) (Nat.le_of_ble_eq_true rfl) ?_
  intro p e s m below meth c ls A hx hb hr hml hown hts hlocks htab hA hP hK hD hE hZ hl hS
  have hown : s.vm.findClass RX11 = some m.cls := hown
  have hl : lv_has ls 3 [(0, .ref h0), (1, .int a0), (2, .int a1)] := hl
  refine lv_iload_n hx hb dX11_log_0 rfl (lv_at hl 1 rfl) ?_
  refine lv_iconst (v := 0) hx hb dX11_log_1 (by decide) ?_
  refine lv_sipush (v := 10000) hx hb dX11_log_2 (by decide +kernel) ?_
  refine q_runP (va_runS (As := [.int a0, .int 0, .int 10000]) (rest := []) ⟨hx, hb, hml, hown, hts⟩ (c_isWithin l a0 0 10000) (cwS 3 hts (gTS kw4 kw5 kw6 kw3) rfl rfl rfl hd1 ⟨(Nat.le_of_ble_eq_true rfl), (Nat.le_of_ble_eq_true rfl)⟩) preEq rfl rfl hl.1 rfl (lv_room (Nat.le_of_ble_eq_true rfl)) dX11_log_5 ⟨(Nat.le_of_ble_eq_true rfl), (Nat.le_of_ble_eq_true rfl)⟩) ?_
  refine lv_if_eq (tgt := 26) hx hb dX11_log_8 (by decide) (fun c1 => ?_) (fun c1 => ?_)
  · have c1 := bz_n c1
    refine lv_iconst (v := 0) hx hb dX11_log_26 (by decide) ?_
    exact q_xout (B := va_A [] s.heap.size) (vx_runS (As := [.int 0]) (rest := []) ⟨hx, hb, hml, hown, hts⟩ (c_X11_require_1 l hst D s.heap.size) (cwS 1 hts (gTS kw242 kw243 kw244 kw3) rfl rfl rfl hd14 ⟨(Nat.le_of_ble_eq_true rfl), (Nat.le_of_ble_eq_true rfl)⟩) (SPx.pre hP hK hD hE hZ hS hA [] [] rfl rfl rfl) rfl rfl hl.1 rfl (lv_room (Nat.le_of_ble_eq_true rfl)) dX11_log_27 ⟨(Nat.le_of_ble_eq_true rfl), (Nat.le_of_ble_eq_true rfl)⟩) hS (va_free (wc := []) hD hS hA [] rfl) htab hlocks (Nat.le_of_ble_eq_true rfl) (Nat.le_of_ble_eq_true rfl)
  · have c1 := bz_p c1
    refine lv_iload_n hx hb dX11_log_11 rfl (lv_at hl 2 rfl) ?_
    refine lv_iconst (v := 0) hx hb dX11_log_12 (by decide) ?_
    refine lv_sipush (v := 500) hx hb dX11_log_13 (by decide +kernel) ?_
    refine q_runP (va_runS (As := [.int a1, .int 0, .int 500]) (rest := []) ⟨hx, hb, hml, hown, hts⟩ (c_isWithin l a1 0 500) (cwS 3 hts (gTS kw4 kw5 kw6 kw3) rfl rfl rfl hd1 ⟨(Nat.le_of_ble_eq_true rfl), (Nat.le_of_ble_eq_true rfl)⟩) preEq rfl rfl hl.1 rfl (lv_room (Nat.le_of_ble_eq_true rfl)) dX11_log_16 ⟨(Nat.le_of_ble_eq_true rfl), (Nat.le_of_ble_eq_true rfl)⟩) ?_
    refine lv_if_eq (tgt := 26) hx hb dX11_log_19 (by decide) (fun c2 => ?_) (fun c2 => ?_)
    · have c2 := bz_n c2
      refine lv_iconst (v := 0) hx hb dX11_log_26 (by decide) ?_
      exact q_xout (B := va_A [] s.heap.size) (vx_runS (As := [.int 0]) (rest := []) ⟨hx, hb, hml, hown, hts⟩ (c_X11_require_1 l hst D s.heap.size) (cwS 1 hts (gTS kw242 kw243 kw244 kw3) rfl rfl rfl hd14 ⟨(Nat.le_of_ble_eq_true rfl), (Nat.le_of_ble_eq_true rfl)⟩) (SPx.pre hP hK hD hE hZ hS hA [] [] rfl rfl rfl) rfl rfl hl.1 rfl (lv_room (Nat.le_of_ble_eq_true rfl)) dX11_log_27 ⟨(Nat.le_of_ble_eq_true rfl), (Nat.le_of_ble_eq_true rfl)⟩) hS (va_free (wc := []) hD hS hA [] rfl) htab hlocks (Nat.le_of_ble_eq_true rfl) (Nat.le_of_ble_eq_true rfl)
    · have c2 := bz_p c2
      exact absurd (show vLog a0 a1 from ⟨c1, c2⟩) v0
abbrev w_X11_hours_1 (h0 h1 h2 h3 h4 h5 h6 h7 h8 h9 h10 : Nat) (a0 : Int32) (_ : Unit) : va_W := [(h0, .inr (11, [.int a0, .ref h1, .ref h2, .ref h3, .int 0, .ref h4, .int 0, .ref h5, .ref h6, .ref h7, .ref h8, .int 0, .ref h9, .int (-1), .ref h10]))]
abbrev t_X11_hours_1 (_ : Unit) : List (ClassId × FieldType) := []
abbrev Q_X11_hours_1 (D : va_G) (h0 h1 h2 h3 h4 h5 h6 h7 h8 h9 h10 : Nat) (a0 : Int32) (A : Nat → Prop) : Array Value → State → Outcome → State → Prop := QW (.returned (some (.int a0))) D (w_X11_hours_1 h0 h1 h2 h3 h4 h5 h6 h7 h8 h9 h10 a0) t_X11_hours_1 A
set_option maxHeartbeats 4000000 in
set_option maxRecDepth 100000 in
theorem c_X11_hours_1 (l : Launch) (D : va_G) (h0 h1 h2 h3 h4 h5 h6 h7 h8 h9 h10 : Nat) (a0 : Int32) (sz : Nat) (v0 : pIn a0 0 100) : Met l yX11_hours (.code yX11_hours cX11_hours 4 (some .int) :: wT) ({ frames := 1, cells := 0, slots := 0, locals := 22 } : Room) (SP D [.ref h0, .int a0] [(h0, .inr (11, [.int 0, .ref h1, .ref h2, .ref h3, .int 0, .ref h4, .int 0, .ref h5, .ref h6, .ref h7, .ref h8, .int 0, .ref h9, .int (-1), .ref h10]))] [] sz) (Q_X11_hours_1 D h0 h1 h2 h3 h4 h5 h6 h7 h8 h9 h10 a0 (va_A [(h0, .inr (11, [.int 0, .ref h1, .ref h2, .ref h3, .int 0, .ref h4, .int 0, .ref h5, .ref h6, .ref h7, .ref h8, .int 0, .ref h9, .int (-1), .ref h10]))] sz)) 0 0 (va_A [(h0, .inr (11, [.int 0, .ref h1, .ref h2, .ref h3, .int 0, .ref h4, .int 0, .ref h5, .ref h6, .ref h7, .ref h8, .int 0, .ref h9, .int (-1), .ref h10]))] sz) := by
  refine SP.start (Qf := Q_X11_hours_1 D h0 h1 h2 h3 h4 h5 h6 h7 h8 h9 h10 a0) (by decide) (Nat.le_of_ble_eq_true rfl) ?_
  intro p e s m below meth c ls A hx hb hr hml hown hts hlocks hname hA hP hK hD hE hl hS
  have hown : s.vm.findClass RX11 = some m.cls := hown
  have hl : lv_has ls 4 [(0, .ref h0), (1, .int a0)] := hl
  refine lv_iload_n hx hb dX11_hours_0 rfl (lv_at hl 1 rfl) ?_
  refine lv_iconst (v := 0) hx hb dX11_hours_1 (by decide) ?_
  refine lv_bipush (v := 100) hx hb dX11_hours_2 (by decide) ?_
  refine q_runP (va_runS (As := [.int a0, .int 0, .int 100]) (rest := []) ⟨hx, hb, hml, hown, hts⟩ (c_isWithin l a0 0 100) (cwS 3 hts (gTS kw4 kw5 kw6 kw3) rfl rfl rfl hd1 ⟨(Nat.le_of_ble_eq_true rfl), (Nat.le_of_ble_eq_true rfl)⟩) preEq rfl rfl hl.1 rfl (lv_room (Nat.le_of_ble_eq_true rfl)) dX11_hours_4 ⟨(Nat.le_of_ble_eq_true rfl), (Nat.le_of_ble_eq_true rfl)⟩) ?_
  refine lv_lit (v := 1) (bz_t v0) ?_
  refine q_runPv (va_runS (As := [.int 1]) (rest := []) ⟨hx, hb, hml, hown, hts⟩ (c_require_1 l) (cwS 1 hts (gTS kw242 kw243 kw244 kw3) rfl rfl rfl hd14 ⟨(Nat.le_of_ble_eq_true rfl), (Nat.le_of_ble_eq_true rfl)⟩) preEq rfl rfl hl.1 rfl (lv_room (Nat.le_of_ble_eq_true rfl)) dX11_hours_7 ⟨(Nat.le_of_ble_eq_true rfl), (Nat.le_of_ble_eq_true rfl)⟩) ?_
  refine lv_aload_n hx hb dX11_hours_10 rfl (lv_at hl 0 rfl) ?_
  refine va_get (D := D) (ci := 11) (v := .int 0) (C := RX11) (T := TX11) (N := 15) hx hb hts iX11 hown hK hP 0 rfl rfl 0 (by decide) (hts _ kw17) (fun _ h9 => h9) rfl dX11_hours_11 ?_
  refine lv_iload_n hx hb dX11_hours_14 rfl (lv_at hl 1 rfl) ?_
  refine lv_iadd hx hb dX11_hours_15 ?_
  refine lv_lit (v := a0) (Int32.zero_add _) ?_
  refine lv_sipush (v := 1000) hx hb dX11_hours_16 (by decide +kernel) ?_
  refine lv_icmp_le (tgt := 33) hx hb dX11_hours_19 (by decide) (fun _ => ?_) (fun c9 => absurd (pIn_le v0 (by decide)) c9)
  refine lv_iconst (v := 0) hx hb dX11_hours_33 (by decide) ?_
  refine lv_istore_n (lv' := [(2, .int 0), (0, .ref h0), (1, .int a0)]) hx hb dX11_hours_34 rfl hl (by decide) rfl (fun ls hl => ?_)
  refine lw_loop (σ := Int32) (I := fun n z H ls locs => vL n 0 z a0 ∧ lv_has ls 4 [(2, .int z), (0, .ref h0), (1, .int a0)] ∧ va_P D vwCl [(h0, .inr (11, [.int z, .ref h1, .ref h2, .ref h3, .int 0, .ref h4, .int 0, .ref h5, .ref h6, .ref h7, .ref h8, .int 0, .ref h9, .int (-1), .ref h10]))] H ∧ va_D A [(h0, .inr (11, [.int z, .ref h1, .ref h2, .ref h3, .int 0, .ref h4, .int 0, .ref h5, .ref h6, .ref h7, .ref h8, .int 0, .ref h9, .int (-1), .ref h10]))] ∧ va_S A s.heap H locs) ?_ _ 0 _ _ _ ⟨vL.of v0.1, lv_sub hl [0, 1, 2] rfl, hP, hD, hS⟩
  clear hP hD hS hl
  intro n z H ls locs hI ih
  obtain ⟨hv, hl, hP, hD, hS⟩ := hI
  obtain ⟨i1, rfl⟩ : ∃ y, y = z := ⟨_, rfl⟩
  have hv : vL n 0 i1 a0 := hv
  have hl : lv_has ls 4 [(2, .int i1), (0, .ref h0), (1, .int a0)] := hl
  have hP : va_P D vwCl [(h0, .inr (11, [.int i1, .ref h1, .ref h2, .ref h3, .int 0, .ref h4, .int 0, .ref h5, .ref h6, .ref h7, .ref h8, .int 0, .ref h9, .int (-1), .ref h10]))] H := hP
  have hD : va_D A [(h0, .inr (11, [.int i1, .ref h1, .ref h2, .ref h3, .int 0, .ref h4, .int 0, .ref h5, .ref h6, .ref h7, .ref h8, .int 0, .ref h9, .int (-1), .ref h10]))] := hD
  refine lv_iload_n hx hb dX11_hours_35 rfl (lv_at hl 0 rfl) ?_
  refine lv_iload_n hx hb dX11_hours_36 rfl (lv_at hl 2 rfl) ?_
  refine lv_icmp_ge (tgt := 98) hx hb dX11_hours_37 (by decide) (fun c2 => ?_) (fun c2 => ?_)
  · have hi9 : a0 = i1 := (hv.out c2).symm
    subst hi9
    refine lv_aload_n hx hb dX11_hours_98 rfl (lv_at hl 1 rfl) ?_
    refine va_get (D := D) (ci := 11) (v := .int a0) (C := RX11) (T := TX11) (N := 15) hx hb hts iX11 hown hK hP 0 rfl rfl 0 (by decide) (hts _ kw17) (fun _ h9 => h9) rfl dX11_hours_99 ?_
    exact q_iret () hx hb hr hlocks hP hK hD hS [0] [] rfl rfl rfl dX11_hours_102 (Nat.le_of_ble_eq_true rfl) (Nat.le_of_ble_eq_true rfl)
  · refine lv_iconst (v := 0) hx hb dX11_hours_40 (by decide) ?_
    refine lv_istore_n (lv' := [(3, .int 0), (2, .int i1), (0, .ref h0), (1, .int a0)]) hx hb dX11_hours_41 rfl hl (by decide) rfl (fun ls hl => ?_)
    refine lv_iload_n hx hb dX11_hours_42 rfl (lv_at hl 0 rfl) ?_
    refine lv_aload_n hx hb dX11_hours_43 rfl (lv_at hl 2 rfl) ?_
    refine va_get (D := D) (ci := 11) (v := .int 0) (C := RX11) (T := TX11) (N := 15) hx hb hts iX11 hown hK hP 0 rfl rfl 4 (by decide) (hts _ kw57) (fun _ h9 => h9) rfl dX11_hours_44 ?_
    refine lv_icmp_ge (tgt := 82) hx hb dX11_hours_47 (by decide) (fun _ => ?_) (fun c9 => absurd (by decide +kernel) c9)
    refine lv_aload_n hx hb dX11_hours_82 rfl (lv_at hl 2 rfl) ?_
    refine lv_dup hx hb dX11_hours_83 rfl ?_
    refine va_get (D := D) (ci := 11) (v := .int i1) (C := RX11) (T := TX11) (N := 15) hx hb hts iX11 hown hK hP 0 rfl rfl 0 (by decide) (hts _ kw17) (fun _ h9 => h9) rfl dX11_hours_84 ?_
    refine lv_iconst (v := 1) hx hb dX11_hours_87 (by decide) ?_
    refine lv_iadd hx hb dX11_hours_88 ?_
    refine va_put (D := D) (ci := 11) (v := .int (i1 + 1)) (ty := .int) (C := RX11) (T := TX11) (N := 15) hx hb hts iX11 tyX11 tyX11_ok nmX11 hown hK hP hD hS 0 rfl rfl 0 (by decide) (hts _ kw17) (fun _ h9 => h9) rfl (tyX11_ok 0 (by decide)) rfl rfl (Nat.le_of_ble_eq_true rfl) dX11_hours_89 (fun H locs hP hD hS => ?_)
    have hP : va_P D vwCl [(h0, .inr (11, [.int (i1 + 1), .ref h1, .ref h2, .ref h3, .int 0, .ref h4, .int 0, .ref h5, .ref h6, .ref h7, .ref h8, .int 0, .ref h9, .int (-1), .ref h10]))] H := hP
    have hD : va_D A [(h0, .inr (11, [.int (i1 + 1), .ref h1, .ref h2, .ref h3, .int 0, .ref h4, .int 0, .ref h5, .ref h6, .ref h7, .ref h8, .int 0, .ref h9, .int (-1), .ref h10]))] := hD
    refine lv_iinc (v := i1 + 1) (lv' := [(2, .int (i1 + 1)), (3, .int 0), (0, .ref h0), (1, .int a0)]) hx hb dX11_hours_92 hl (k := 1) rfl rfl (by decide) rfl (fun ls hl => ?_)
    refine lv_goto (tgt := 35) hx hb dX11_hours_95 (by decide) ?_
    exact ih _ (i1 + 1) _ _ _ (hv.step c2).1 ⟨(hv.step c2).2, lv_sub hl [0, 2, 3] rfl, hP, hD, hS⟩
set_option maxHeartbeats 4000000 in
set_option maxRecDepth 100000 in
theorem c_X11_hours_2 (l : Launch) (hst : l.stackTraces = false) (D : va_G) (h0 : Nat) (a0 : Int32) (sz : Nat) (v0 : ¬ pIn a0 0 100) : vx_Met l yX11_hours (.code yX11_hours cX11_hours 4 (some .int) :: wT) ({ frames := 7, cells := 1, slots := 6, locals := 103 } : Room) (SPx D [.ref h0, .int a0] [] [] sz) QNo (XQ "java/lang/IllegalArgumentException" (va_A [] sz)) 1 6 (va_A [] sz) := by
  refine SPx.start (by decide) (Nat.le_of_ble_eq_true rfl) ?_
  intro p e s m below meth c ls A hx hb hr hml hown hts hlocks htab hA hP hK hD hE hZ hl hS
  have hown : s.vm.findClass RX11 = some m.cls := hown
  have hl : lv_has ls 4 [(0, .ref h0), (1, .int a0)] := hl
  refine lv_iload_n hx hb dX11_hours_0 rfl (lv_at hl 1 rfl) ?_
  refine lv_iconst (v := 0) hx hb dX11_hours_1 (by decide) ?_
  refine lv_bipush (v := 100) hx hb dX11_hours_2 (by decide) ?_
  refine q_runP (va_runS (As := [.int a0, .int 0, .int 100]) (rest := []) ⟨hx, hb, hml, hown, hts⟩ (c_isWithin l a0 0 100) (cwS 3 hts (gTS kw4 kw5 kw6 kw3) rfl rfl rfl hd1 ⟨(Nat.le_of_ble_eq_true rfl), (Nat.le_of_ble_eq_true rfl)⟩) preEq rfl rfl hl.1 rfl (lv_room (Nat.le_of_ble_eq_true rfl)) dX11_hours_4 ⟨(Nat.le_of_ble_eq_true rfl), (Nat.le_of_ble_eq_true rfl)⟩) ?_
  refine lv_lit (v := 0) (bz_f v0) ?_
  exact q_xout (B := va_A [] s.heap.size) (vx_runS (As := [.int 0]) (rest := []) ⟨hx, hb, hml, hown, hts⟩ (c_X11_require_1 l hst D s.heap.size) (cwS 1 hts (gTS kw242 kw243 kw244 kw3) rfl rfl rfl hd14 ⟨(Nat.le_of_ble_eq_true rfl), (Nat.le_of_ble_eq_true rfl)⟩) (SPx.pre hP hK hD hE hZ hS hA [] [] rfl rfl rfl) rfl rfl hl.1 rfl (lv_room (Nat.le_of_ble_eq_true rfl)) dX11_hours_7 ⟨(Nat.le_of_ble_eq_true rfl), (Nat.le_of_ble_eq_true rfl)⟩) hS (va_free (wc := []) hD hS hA [] rfl) htab hlocks (Nat.le_of_ble_eq_true rfl) (Nat.le_of_ble_eq_true rfl)
abbrev w_X3_fits_1 (h0 h1 h2 : Nat) (a0 : Int32) (_ : Unit) : va_W := [(h0, .inr (3, [.ref h1, .ref h2, .int 0]))]
abbrev t_X3_fits_1 (_ : Unit) : List (ClassId × FieldType) := []
abbrev Q_X3_fits_1 (D : va_G) (h0 h1 h2 : Nat) (a0 : Int32) (A : Nat → Prop) : Array Value → State → Outcome → State → Prop := QW (.returned (some (.int 0))) D (w_X3_fits_1 h0 h1 h2 a0) t_X3_fits_1 A
set_option maxHeartbeats 4000000 in
set_option maxRecDepth 100000 in
theorem c_X3_fits_1 (l : Launch) (D : va_G) (h0 h1 h2 : Nat) (a0 : Int32) (sz : Nat) : Met l yX3_fits (.code yX3_fits cX3_fits 5 (some .boolean) :: wT) ({ frames := 0, cells := 0, slots := 0, locals := 0 } : Room) (SP D [.ref h0, .int a0] [(h0, .inr (3, [.ref h1, .ref h2, .int 0]))] [] sz) (Q_X3_fits_1 D h0 h1 h2 a0 (va_A [(h0, .inr (3, [.ref h1, .ref h2, .int 0]))] sz)) 0 0 (va_A [(h0, .inr (3, [.ref h1, .ref h2, .int 0]))] sz) := by
  refine SP.start (Qf := Q_X3_fits_1 D h0 h1 h2 a0) (by decide) (Nat.le_of_ble_eq_true rfl) ?_
  intro p e s m below meth c ls A hx hb hr hml hown hts hlocks hname hA hP hK hD hE hl hS
  have hown : s.vm.findClass RX3 = some m.cls := hown
  have hl : lv_has ls 5 [(0, .ref h0), (1, .int a0)] := hl
  refine lv_aload_n hx hb dX3_fits_0 rfl (lv_at hl 0 rfl) ?_
  refine va_get (D := D) (ci := 3) (v := .int 0) (C := RX3) (T := TX3) (N := 3) hx hb hts iX3 hown hK hP 0 rfl rfl 2 (by decide) (hts _ kw88) (fun _ h9 => h9) rfl dX3_fits_1 ?_
  refine lv_if_ne (tgt := 9) hx hb dX3_fits_4 (by decide) (fun c9 => absurd (by decide +kernel) c9) (fun _ => ?_)
  refine lv_iconst (v := 0) hx hb dX3_fits_7 (by decide) ?_
  exact q_zret () hx hb hr hlocks rfl hP hK hD hS [0] [] rfl rfl rfl dX3_fits_8 (Nat.le_of_ble_eq_true rfl) (Nat.le_of_ble_eq_true rfl)
abbrev w_X11_leaks_1 (h0 h1 h2 h3 h4 h5 h6 h7 h8 h9 h10 h11 h12 : Nat) (_ : Unit) : va_W := [(h0, .inr (11, [.int 0, .ref h2, .ref h3, .ref h4, .int 0, .ref h5, .int 0, .ref h6, .ref h1, .ref h7, .ref h8, .int 0, .ref h9, .int (-1), .ref h10])), (h1, .inr (3, [.ref h11, .ref h12, .int 0]))]
abbrev t_X11_leaks_1 (_ : Unit) : List (ClassId × FieldType) := []
abbrev Q_X11_leaks_1 (D : va_G) (h0 h1 h2 h3 h4 h5 h6 h7 h8 h9 h10 h11 h12 : Nat) (A : Nat → Prop) : Array Value → State → Outcome → State → Prop := QW (.returned (some (.int 0))) D (w_X11_leaks_1 h0 h1 h2 h3 h4 h5 h6 h7 h8 h9 h10 h11 h12) t_X11_leaks_1 A
set_option maxHeartbeats 4000000 in
set_option maxRecDepth 100000 in
theorem c_X11_leaks_1 (l : Launch) (D : va_G) (h0 h1 h2 h3 h4 h5 h6 h7 h8 h9 h10 h11 h12 : Nat) (sz : Nat) : Met l yX11_leaks (.code yX11_leaks cX11_leaks 6 (some .int) :: wT) ({ frames := 1, cells := 0, slots := 0, locals := 24 } : Room) (SP D [.ref h0, .int 0] [(h0, .inr (11, [.int 0, .ref h2, .ref h3, .ref h4, .int 0, .ref h5, .int 0, .ref h6, .ref h1, .ref h7, .ref h8, .int 0, .ref h9, .int (-1), .ref h10])), (h1, .inr (3, [.ref h11, .ref h12, .int 0]))] [] sz) (Q_X11_leaks_1 D h0 h1 h2 h3 h4 h5 h6 h7 h8 h9 h10 h11 h12 (va_A [(h0, .inr (11, [.int 0, .ref h2, .ref h3, .ref h4, .int 0, .ref h5, .int 0, .ref h6, .ref h1, .ref h7, .ref h8, .int 0, .ref h9, .int (-1), .ref h10])), (h1, .inr (3, [.ref h11, .ref h12, .int 0]))] sz)) 0 0 (va_A [(h0, .inr (11, [.int 0, .ref h2, .ref h3, .ref h4, .int 0, .ref h5, .int 0, .ref h6, .ref h1, .ref h7, .ref h8, .int 0, .ref h9, .int (-1), .ref h10])), (h1, .inr (3, [.ref h11, .ref h12, .int 0]))] sz) := by
  refine SP.start (Qf := Q_X11_leaks_1 D h0 h1 h2 h3 h4 h5 h6 h7 h8 h9 h10 h11 h12) (by decide) (Nat.le_of_ble_eq_true rfl) ?_
  intro p e s m below meth c ls A hx hb hr hml hown hts hlocks hname hA hP hK hD hE hl hS
  have hown : s.vm.findClass RX11 = some m.cls := hown
  have hl : lv_has ls 6 [(0, .ref h0), (1, .int 0)] := hl
  refine lv_iload_n hx hb dX11_leaks_0 rfl (lv_at hl 1 rfl) ?_
  refine lv_iconst (v := 0) hx hb dX11_leaks_1 (by decide) ?_
  refine lv_iconst (v := 2) hx hb dX11_leaks_2 (by decide) ?_
  refine q_runP (va_runS (As := [.int 0, .int 0, .int 2]) (rest := []) ⟨hx, hb, hml, hown, hts⟩ (c_isWithin l 0 0 2) (cwS 3 hts (gTS kw4 kw5 kw6 kw3) rfl rfl rfl hd1 ⟨(Nat.le_of_ble_eq_true rfl), (Nat.le_of_ble_eq_true rfl)⟩) preEq rfl rfl hl.1 rfl (lv_room (Nat.le_of_ble_eq_true rfl)) dX11_leaks_3 ⟨(Nat.le_of_ble_eq_true rfl), (Nat.le_of_ble_eq_true rfl)⟩) ?_
  refine lv_lit (v := 1) (bz_t (show pIn 0 0 2 from ⟨by decide, by decide⟩)) ?_
  refine q_runPv (va_runS (As := [.int 1]) (rest := []) ⟨hx, hb, hml, hown, hts⟩ (c_require_1 l) (cwS 1 hts (gTS kw242 kw243 kw244 kw3) rfl rfl rfl hd14 ⟨(Nat.le_of_ble_eq_true rfl), (Nat.le_of_ble_eq_true rfl)⟩) preEq rfl rfl hl.1 rfl (lv_room (Nat.le_of_ble_eq_true rfl)) dX11_leaks_6 ⟨(Nat.le_of_ble_eq_true rfl), (Nat.le_of_ble_eq_true rfl)⟩) ?_
  refine lv_iconst (v := 0) hx hb dX11_leaks_9 (by decide) ?_
  refine lv_istore_n (lv' := [(2, .int 0), (0, .ref h0), (1, .int 0)]) hx hb dX11_leaks_10 rfl hl (by decide) rfl (fun ls hl => ?_)
  refine lv_iconst (v := (-1)) hx hb dX11_leaks_11 (by decide) ?_
  refine lv_istore_n (lv' := [(3, .int (-1)), (2, .int 0), (0, .ref h0), (1, .int 0)]) hx hb dX11_leaks_12 rfl hl (by decide) rfl (fun ls hl => ?_)
  refine lv_iconst (v := (-1)) hx hb dX11_leaks_13 (by decide) ?_
  refine lv_istore (lv' := [(4, .int (-1)), (3, .int (-1)), (2, .int 0), (0, .ref h0), (1, .int 0)]) hx hb dX11_leaks_14 hl (by decide) rfl (fun ls hl => ?_)
  refine lv_iconst (v := 0) hx hb dX11_leaks_16 (by decide) ?_
  refine lv_istore (lv' := [(5, .int 0), (4, .int (-1)), (3, .int (-1)), (2, .int 0), (0, .ref h0), (1, .int 0)]) hx hb dX11_leaks_17 hl (by decide) rfl (fun ls hl => ?_)
  refine lw_loop (σ := Int32) (I := fun n z H ls locs => vL n 0 z (100 + 1) ∧ lv_has ls 6 [(5, .int z), (4, .int (-1)), (3, .int (-1)), (2, .int 0), (0, .ref h0), (1, .int 0)] ∧ va_P D vwCl [(h0, .inr (11, [.int 0, .ref h2, .ref h3, .ref h4, .int 0, .ref h5, .int 0, .ref h6, .ref h1, .ref h7, .ref h8, .int 0, .ref h9, .int (-1), .ref h10])), (h1, .inr (3, [.ref h11, .ref h12, .int 0]))] H ∧ va_D A [(h0, .inr (11, [.int 0, .ref h2, .ref h3, .ref h4, .int 0, .ref h5, .int 0, .ref h6, .ref h1, .ref h7, .ref h8, .int 0, .ref h9, .int (-1), .ref h10])), (h1, .inr (3, [.ref h11, .ref h12, .int 0]))] ∧ va_S A s.heap H locs) ?_ _ 0 _ _ _ ⟨vL.of (by decide), lv_sub hl [0, 1, 2, 3, 4, 5] rfl, hP, hD, hS⟩
  clear hP hD hS hl
  intro n z H ls locs hI ih
  obtain ⟨hv, hl, hP, hD, hS⟩ := hI
  obtain ⟨i1, rfl⟩ : ∃ y, y = z := ⟨_, rfl⟩
  have hv : vL n 0 i1 (100 + 1) := hv
  have hl : lv_has ls 6 [(5, .int i1), (4, .int (-1)), (3, .int (-1)), (2, .int 0), (0, .ref h0), (1, .int 0)] := hl
  have hP : va_P D vwCl [(h0, .inr (11, [.int 0, .ref h2, .ref h3, .ref h4, .int 0, .ref h5, .int 0, .ref h6, .ref h1, .ref h7, .ref h8, .int 0, .ref h9, .int (-1), .ref h10])), (h1, .inr (3, [.ref h11, .ref h12, .int 0]))] H := hP
  have hD : va_D A [(h0, .inr (11, [.int 0, .ref h2, .ref h3, .ref h4, .int 0, .ref h5, .int 0, .ref h6, .ref h1, .ref h7, .ref h8, .int 0, .ref h9, .int (-1), .ref h10])), (h1, .inr (3, [.ref h11, .ref h12, .int 0]))] := hD
  refine lv_iload hx hb dX11_leaks_19 (lv_at hl 0 rfl) ?_
  refine lv_bipush (v := 100) hx hb dX11_leaks_21 (by decide) ?_
  refine lv_icmp_gt (tgt := 63) hx hb dX11_leaks_23 (by decide) (fun c2 => ?_) (fun c2 => ?_)
  · refine lv_iload_n hx hb dX11_leaks_63 rfl (lv_at hl 5 rfl) ?_
    refine lv_if_ne (tgt := 69) hx hb dX11_leaks_64 (by decide) (fun c9 => absurd (by decide +kernel) c9) (fun _ => ?_)
    refine lv_iload_n hx hb dX11_leaks_67 rfl (lv_at hl 3 rfl) ?_
    exact q_iret () hx hb hr hlocks hP hK hD hS [0, 1] [] rfl rfl rfl dX11_leaks_68 (Nat.le_of_ble_eq_true rfl) (Nat.le_of_ble_eq_true rfl)
  · refine lv_aload_n hx hb dX11_leaks_26 rfl (lv_at hl 4 rfl) ?_
    refine va_get (D := D) (ci := 11) (v := .ref h1) (C := RX11) (T := TX11) (N := 15) hx hb hts iX11 hown hK hP 0 rfl rfl 8 (by decide) (hts _ kw92) (fun _ h9 => h9) rfl dX11_leaks_27 ?_
    refine lv_iload hx hb dX11_leaks_30 (lv_at hl 0 rfl) ?_
    refine q_run (D := D) (w1 := w_X3_fits_1 h1 h11 h12 i1) (t1 := t_X3_fits_1) (o := (some (.int 0))) (ws := [(h0, .inr (11, [.int 0, .ref h2, .ref h3, .ref h4, .int 0, .ref h5, .int 0, .ref h6, .ref h1, .ref h7, .ref h8, .int 0, .ref h9, .int (-1), .ref h10])), (h1, .inr (3, [.ref h11, .ref h12, .int 0]))]) (wc := [(h1, .inr (3, [.ref h11, .ref h12, .int 0]))]) (wr := [(h0, .inr (11, [.int 0, .ref h2, .ref h3, .ref h4, .int 0, .ref h5, .int 0, .ref h6, .ref h1, .ref h7, .ref h8, .int 0, .ref h9, .int (-1), .ref h10]))]) (va_runV (C := RX3) (b := h1) (As := [.int i1]) (rest := []) ⟨hx, hb, hml, hown, hts⟩ (c_X3_fits_1 l D h1 h11 h12 i1 H.size) (cwV 1 hts (gTV kw385 kw386 kw387 kw388 kw84) rfl rfl rfl hd38 ⟨(Nat.le_of_ble_eq_true rfl), (Nat.le_of_ble_eq_true rfl)⟩) ⟨SP.blind, q_recv (ws := [(h0, .inr (11, [.int 0, .ref h2, .ref h3, .ref h4, .int 0, .ref h5, .int 0, .ref h6, .ref h1, .ref h7, .ref h8, .int 0, .ref h9, .int (-1), .ref h10])), (h1, .inr (3, [.ref h11, .ref h12, .int 0]))]) (wc := []) (r := (RX3, TX3, 3)) (ci := 3) (i := 1) hP hK rfl rfl, (SP.pre hP hK hD hE [1] [] rfl rfl rfl).2⟩ rfl rfl hl.1 rfl (lv_room (Nat.le_of_ble_eq_true rfl)) dX11_leaks_32 ⟨(Nat.le_of_ble_eq_true rfl), (Nat.le_of_ble_eq_true rfl)⟩) hP hK hD hS hA [1] [0] rfl rfl rfl (by decide) (fun u H locs hP hK hD hS => ?_)
    refine W.eq (g2 := F0 m 35 ls [.int 0]) rfl ?_
    refine W.cs (cells' := 0) (slots' := 0) rfl rfl ?_
    have hP : va_P D vwCl [(h0, .inr (11, [.int 0, .ref h2, .ref h3, .ref h4, .int 0, .ref h5, .int 0, .ref h6, .ref h1, .ref h7, .ref h8, .int 0, .ref h9, .int (-1), .ref h10])), (h1, .inr (3, [.ref h11, .ref h12, .int 0]))] H := hP
    have hD : va_D A [(h0, .inr (11, [.int 0, .ref h2, .ref h3, .ref h4, .int 0, .ref h5, .int 0, .ref h6, .ref h1, .ref h7, .ref h8, .int 0, .ref h9, .int (-1), .ref h10])), (h1, .inr (3, [.ref h11, .ref h12, .int 0]))] := hD
    have hK : va_K D vwCl [] s := hK
    refine lv_if_eq (tgt := 57) hx hb dX11_leaks_35 (by decide) (fun _ => ?_) (fun c9 => absurd (by decide +kernel) c9)
    refine lv_iinc (v := i1 + 1) (lv' := [(5, .int (i1 + 1)), (4, .int (-1)), (3, .int (-1)), (2, .int 0), (0, .ref h0), (1, .int 0)]) hx hb dX11_leaks_57 hl (k := 0) rfl rfl (by decide) rfl (fun ls hl => ?_)
    refine lv_goto (tgt := 19) hx hb dX11_leaks_60 (by decide) ?_
    exact ih _ (i1 + 1) _ _ _ (hv.stepG (by decide) c2).1 ⟨(hv.stepG (by decide) c2).2, lv_sub hl [0, 1, 2, 3, 4, 5] rfl, hP, hD, hS⟩
abbrev w_X11_leaks_2 (h0 h1 h2 h3 h4 h5 h6 h7 h8 h9 h10 h11 h12 : Nat) (_ : Unit) : va_W := [(h0, .inr (11, [.int 0, .ref h2, .ref h3, .ref h4, .int 0, .ref h5, .int 0, .ref h6, .ref h1, .ref h7, .ref h8, .int 0, .ref h9, .int (-1), .ref h10])), (h1, .inr (3, [.ref h11, .ref h12, .int 0]))]
abbrev t_X11_leaks_2 (_ : Unit) : List (ClassId × FieldType) := []
abbrev Q_X11_leaks_2 (D : va_G) (h0 h1 h2 h3 h4 h5 h6 h7 h8 h9 h10 h11 h12 : Nat) (A : Nat → Prop) : Array Value → State → Outcome → State → Prop := QW (.returned (some (.int (-1)))) D (w_X11_leaks_2 h0 h1 h2 h3 h4 h5 h6 h7 h8 h9 h10 h11 h12) t_X11_leaks_2 A
set_option maxHeartbeats 4000000 in
set_option maxRecDepth 100000 in
theorem c_X11_leaks_2 (l : Launch) (D : va_G) (h0 h1 h2 h3 h4 h5 h6 h7 h8 h9 h10 h11 h12 : Nat) (sz : Nat) : Met l yX11_leaks (.code yX11_leaks cX11_leaks 6 (some .int) :: wT) ({ frames := 1, cells := 0, slots := 0, locals := 24 } : Room) (SP D [.ref h0, .int 1] [(h0, .inr (11, [.int 0, .ref h2, .ref h3, .ref h4, .int 0, .ref h5, .int 0, .ref h6, .ref h1, .ref h7, .ref h8, .int 0, .ref h9, .int (-1), .ref h10])), (h1, .inr (3, [.ref h11, .ref h12, .int 0]))] [] sz) (Q_X11_leaks_2 D h0 h1 h2 h3 h4 h5 h6 h7 h8 h9 h10 h11 h12 (va_A [(h0, .inr (11, [.int 0, .ref h2, .ref h3, .ref h4, .int 0, .ref h5, .int 0, .ref h6, .ref h1, .ref h7, .ref h8, .int 0, .ref h9, .int (-1), .ref h10])), (h1, .inr (3, [.ref h11, .ref h12, .int 0]))] sz)) 0 0 (va_A [(h0, .inr (11, [.int 0, .ref h2, .ref h3, .ref h4, .int 0, .ref h5, .int 0, .ref h6, .ref h1, .ref h7, .ref h8, .int 0, .ref h9, .int (-1), .ref h10])), (h1, .inr (3, [.ref h11, .ref h12, .int 0]))] sz) := by
  refine SP.start (Qf := Q_X11_leaks_2 D h0 h1 h2 h3 h4 h5 h6 h7 h8 h9 h10 h11 h12) (by decide) (Nat.le_of_ble_eq_true rfl) ?_
  intro p e s m below meth c ls A hx hb hr hml hown hts hlocks hname hA hP hK hD hE hl hS
  have hown : s.vm.findClass RX11 = some m.cls := hown
  have hl : lv_has ls 6 [(0, .ref h0), (1, .int 1)] := hl
  refine lv_iload_n hx hb dX11_leaks_0 rfl (lv_at hl 1 rfl) ?_
  refine lv_iconst (v := 0) hx hb dX11_leaks_1 (by decide) ?_
  refine lv_iconst (v := 2) hx hb dX11_leaks_2 (by decide) ?_
  refine q_runP (va_runS (As := [.int 1, .int 0, .int 2]) (rest := []) ⟨hx, hb, hml, hown, hts⟩ (c_isWithin l 1 0 2) (cwS 3 hts (gTS kw4 kw5 kw6 kw3) rfl rfl rfl hd1 ⟨(Nat.le_of_ble_eq_true rfl), (Nat.le_of_ble_eq_true rfl)⟩) preEq rfl rfl hl.1 rfl (lv_room (Nat.le_of_ble_eq_true rfl)) dX11_leaks_3 ⟨(Nat.le_of_ble_eq_true rfl), (Nat.le_of_ble_eq_true rfl)⟩) ?_
  refine lv_lit (v := 1) (bz_t (show pIn 1 0 2 from ⟨by decide, by decide⟩)) ?_
  refine q_runPv (va_runS (As := [.int 1]) (rest := []) ⟨hx, hb, hml, hown, hts⟩ (c_require_1 l) (cwS 1 hts (gTS kw242 kw243 kw244 kw3) rfl rfl rfl hd14 ⟨(Nat.le_of_ble_eq_true rfl), (Nat.le_of_ble_eq_true rfl)⟩) preEq rfl rfl hl.1 rfl (lv_room (Nat.le_of_ble_eq_true rfl)) dX11_leaks_6 ⟨(Nat.le_of_ble_eq_true rfl), (Nat.le_of_ble_eq_true rfl)⟩) ?_
  refine lv_iconst (v := 0) hx hb dX11_leaks_9 (by decide) ?_
  refine lv_istore_n (lv' := [(2, .int 0), (0, .ref h0), (1, .int 1)]) hx hb dX11_leaks_10 rfl hl (by decide) rfl (fun ls hl => ?_)
  refine lv_iconst (v := (-1)) hx hb dX11_leaks_11 (by decide) ?_
  refine lv_istore_n (lv' := [(3, .int (-1)), (2, .int 0), (0, .ref h0), (1, .int 1)]) hx hb dX11_leaks_12 rfl hl (by decide) rfl (fun ls hl => ?_)
  refine lv_iconst (v := (-1)) hx hb dX11_leaks_13 (by decide) ?_
  refine lv_istore (lv' := [(4, .int (-1)), (3, .int (-1)), (2, .int 0), (0, .ref h0), (1, .int 1)]) hx hb dX11_leaks_14 hl (by decide) rfl (fun ls hl => ?_)
  refine lv_iconst (v := 0) hx hb dX11_leaks_16 (by decide) ?_
  refine lv_istore (lv' := [(5, .int 0), (4, .int (-1)), (3, .int (-1)), (2, .int 0), (0, .ref h0), (1, .int 1)]) hx hb dX11_leaks_17 hl (by decide) rfl (fun ls hl => ?_)
  refine lw_loop (σ := Int32) (I := fun n z H ls locs => vL n 0 z (100 + 1) ∧ lv_has ls 6 [(5, .int z), (4, .int (-1)), (3, .int (-1)), (2, .int 0), (0, .ref h0), (1, .int 1)] ∧ va_P D vwCl [(h0, .inr (11, [.int 0, .ref h2, .ref h3, .ref h4, .int 0, .ref h5, .int 0, .ref h6, .ref h1, .ref h7, .ref h8, .int 0, .ref h9, .int (-1), .ref h10])), (h1, .inr (3, [.ref h11, .ref h12, .int 0]))] H ∧ va_D A [(h0, .inr (11, [.int 0, .ref h2, .ref h3, .ref h4, .int 0, .ref h5, .int 0, .ref h6, .ref h1, .ref h7, .ref h8, .int 0, .ref h9, .int (-1), .ref h10])), (h1, .inr (3, [.ref h11, .ref h12, .int 0]))] ∧ va_S A s.heap H locs) ?_ _ 0 _ _ _ ⟨vL.of (by decide), lv_sub hl [0, 1, 2, 3, 4, 5] rfl, hP, hD, hS⟩
  clear hP hD hS hl
  intro n z H ls locs hI ih
  obtain ⟨hv, hl, hP, hD, hS⟩ := hI
  obtain ⟨i1, rfl⟩ : ∃ y, y = z := ⟨_, rfl⟩
  have hv : vL n 0 i1 (100 + 1) := hv
  have hl : lv_has ls 6 [(5, .int i1), (4, .int (-1)), (3, .int (-1)), (2, .int 0), (0, .ref h0), (1, .int 1)] := hl
  have hP : va_P D vwCl [(h0, .inr (11, [.int 0, .ref h2, .ref h3, .ref h4, .int 0, .ref h5, .int 0, .ref h6, .ref h1, .ref h7, .ref h8, .int 0, .ref h9, .int (-1), .ref h10])), (h1, .inr (3, [.ref h11, .ref h12, .int 0]))] H := hP
  have hD : va_D A [(h0, .inr (11, [.int 0, .ref h2, .ref h3, .ref h4, .int 0, .ref h5, .int 0, .ref h6, .ref h1, .ref h7, .ref h8, .int 0, .ref h9, .int (-1), .ref h10])), (h1, .inr (3, [.ref h11, .ref h12, .int 0]))] := hD
  refine lv_iload hx hb dX11_leaks_19 (lv_at hl 0 rfl) ?_
  refine lv_bipush (v := 100) hx hb dX11_leaks_21 (by decide) ?_
  refine lv_icmp_gt (tgt := 63) hx hb dX11_leaks_23 (by decide) (fun c2 => ?_) (fun c2 => ?_)
  · refine lv_iload_n hx hb dX11_leaks_63 rfl (lv_at hl 5 rfl) ?_
    refine lv_if_ne (tgt := 69) hx hb dX11_leaks_64 (by decide) (fun _ => ?_) (fun c9 => absurd c9 (by decide +kernel))
    refine lv_iload_n hx hb dX11_leaks_69 rfl (lv_at hl 5 rfl) ?_
    refine lv_iconst (v := 1) hx hb dX11_leaks_70 (by decide) ?_
    refine lv_icmp_ne (tgt := 78) hx hb dX11_leaks_71 (by decide) (fun c9 => absurd (by decide +kernel) c9) (fun _ => ?_)
    refine lv_iload_n hx hb dX11_leaks_74 rfl (lv_at hl 2 rfl) ?_
    refine lv_goto (tgt := 80) hx hb dX11_leaks_75 (by decide) ?_
    exact q_iret () hx hb hr hlocks hP hK hD hS [0, 1] [] rfl rfl rfl dX11_leaks_80 (Nat.le_of_ble_eq_true rfl) (Nat.le_of_ble_eq_true rfl)
  · refine lv_aload_n hx hb dX11_leaks_26 rfl (lv_at hl 4 rfl) ?_
    refine va_get (D := D) (ci := 11) (v := .ref h1) (C := RX11) (T := TX11) (N := 15) hx hb hts iX11 hown hK hP 0 rfl rfl 8 (by decide) (hts _ kw92) (fun _ h9 => h9) rfl dX11_leaks_27 ?_
    refine lv_iload hx hb dX11_leaks_30 (lv_at hl 0 rfl) ?_
    refine q_run (D := D) (w1 := w_X3_fits_1 h1 h11 h12 i1) (t1 := t_X3_fits_1) (o := (some (.int 0))) (ws := [(h0, .inr (11, [.int 0, .ref h2, .ref h3, .ref h4, .int 0, .ref h5, .int 0, .ref h6, .ref h1, .ref h7, .ref h8, .int 0, .ref h9, .int (-1), .ref h10])), (h1, .inr (3, [.ref h11, .ref h12, .int 0]))]) (wc := [(h1, .inr (3, [.ref h11, .ref h12, .int 0]))]) (wr := [(h0, .inr (11, [.int 0, .ref h2, .ref h3, .ref h4, .int 0, .ref h5, .int 0, .ref h6, .ref h1, .ref h7, .ref h8, .int 0, .ref h9, .int (-1), .ref h10]))]) (va_runV (C := RX3) (b := h1) (As := [.int i1]) (rest := []) ⟨hx, hb, hml, hown, hts⟩ (c_X3_fits_1 l D h1 h11 h12 i1 H.size) (cwV 1 hts (gTV kw385 kw386 kw387 kw388 kw84) rfl rfl rfl hd38 ⟨(Nat.le_of_ble_eq_true rfl), (Nat.le_of_ble_eq_true rfl)⟩) ⟨SP.blind, q_recv (ws := [(h0, .inr (11, [.int 0, .ref h2, .ref h3, .ref h4, .int 0, .ref h5, .int 0, .ref h6, .ref h1, .ref h7, .ref h8, .int 0, .ref h9, .int (-1), .ref h10])), (h1, .inr (3, [.ref h11, .ref h12, .int 0]))]) (wc := []) (r := (RX3, TX3, 3)) (ci := 3) (i := 1) hP hK rfl rfl, (SP.pre hP hK hD hE [1] [] rfl rfl rfl).2⟩ rfl rfl hl.1 rfl (lv_room (Nat.le_of_ble_eq_true rfl)) dX11_leaks_32 ⟨(Nat.le_of_ble_eq_true rfl), (Nat.le_of_ble_eq_true rfl)⟩) hP hK hD hS hA [1] [0] rfl rfl rfl (by decide) (fun u H locs hP hK hD hS => ?_)
    refine W.eq (g2 := F0 m 35 ls [.int 0]) rfl ?_
    refine W.cs (cells' := 0) (slots' := 0) rfl rfl ?_
    have hP : va_P D vwCl [(h0, .inr (11, [.int 0, .ref h2, .ref h3, .ref h4, .int 0, .ref h5, .int 0, .ref h6, .ref h1, .ref h7, .ref h8, .int 0, .ref h9, .int (-1), .ref h10])), (h1, .inr (3, [.ref h11, .ref h12, .int 0]))] H := hP
    have hD : va_D A [(h0, .inr (11, [.int 0, .ref h2, .ref h3, .ref h4, .int 0, .ref h5, .int 0, .ref h6, .ref h1, .ref h7, .ref h8, .int 0, .ref h9, .int (-1), .ref h10])), (h1, .inr (3, [.ref h11, .ref h12, .int 0]))] := hD
    have hK : va_K D vwCl [] s := hK
    refine lv_if_eq (tgt := 57) hx hb dX11_leaks_35 (by decide) (fun _ => ?_) (fun c9 => absurd (by decide +kernel) c9)
    refine lv_iinc (v := i1 + 1) (lv' := [(5, .int (i1 + 1)), (4, .int (-1)), (3, .int (-1)), (2, .int 0), (0, .ref h0), (1, .int 1)]) hx hb dX11_leaks_57 hl (k := 0) rfl rfl (by decide) rfl (fun ls hl => ?_)
    refine lv_goto (tgt := 19) hx hb dX11_leaks_60 (by decide) ?_
    exact ih _ (i1 + 1) _ _ _ (hv.stepG (by decide) c2).1 ⟨(hv.stepG (by decide) c2).2, lv_sub hl [0, 1, 2, 3, 4, 5] rfl, hP, hD, hS⟩
abbrev w_X11_leaks_3 (h0 h1 h2 h3 h4 h5 h6 h7 h8 h9 h10 h11 h12 : Nat) (_ : Unit) : va_W := [(h0, .inr (11, [.int 0, .ref h2, .ref h3, .ref h4, .int 0, .ref h5, .int 0, .ref h6, .ref h1, .ref h7, .ref h8, .int 0, .ref h9, .int (-1), .ref h10])), (h1, .inr (3, [.ref h11, .ref h12, .int 0]))]
abbrev t_X11_leaks_3 (_ : Unit) : List (ClassId × FieldType) := []
abbrev Q_X11_leaks_3 (D : va_G) (h0 h1 h2 h3 h4 h5 h6 h7 h8 h9 h10 h11 h12 : Nat) (A : Nat → Prop) : Array Value → State → Outcome → State → Prop := QW (.returned (some (.int (-1)))) D (w_X11_leaks_3 h0 h1 h2 h3 h4 h5 h6 h7 h8 h9 h10 h11 h12) t_X11_leaks_3 A
set_option maxHeartbeats 4000000 in
set_option maxRecDepth 100000 in
theorem c_X11_leaks_3 (l : Launch) (D : va_G) (h0 h1 h2 h3 h4 h5 h6 h7 h8 h9 h10 h11 h12 : Nat) (sz : Nat) : Met l yX11_leaks (.code yX11_leaks cX11_leaks 6 (some .int) :: wT) ({ frames := 1, cells := 0, slots := 0, locals := 24 } : Room) (SP D [.ref h0, .int 2] [(h0, .inr (11, [.int 0, .ref h2, .ref h3, .ref h4, .int 0, .ref h5, .int 0, .ref h6, .ref h1, .ref h7, .ref h8, .int 0, .ref h9, .int (-1), .ref h10])), (h1, .inr (3, [.ref h11, .ref h12, .int 0]))] [] sz) (Q_X11_leaks_3 D h0 h1 h2 h3 h4 h5 h6 h7 h8 h9 h10 h11 h12 (va_A [(h0, .inr (11, [.int 0, .ref h2, .ref h3, .ref h4, .int 0, .ref h5, .int 0, .ref h6, .ref h1, .ref h7, .ref h8, .int 0, .ref h9, .int (-1), .ref h10])), (h1, .inr (3, [.ref h11, .ref h12, .int 0]))] sz)) 0 0 (va_A [(h0, .inr (11, [.int 0, .ref h2, .ref h3, .ref h4, .int 0, .ref h5, .int 0, .ref h6, .ref h1, .ref h7, .ref h8, .int 0, .ref h9, .int (-1), .ref h10])), (h1, .inr (3, [.ref h11, .ref h12, .int 0]))] sz) := by
  refine SP.start (Qf := Q_X11_leaks_3 D h0 h1 h2 h3 h4 h5 h6 h7 h8 h9 h10 h11 h12) (by decide) (Nat.le_of_ble_eq_true rfl) ?_
  intro p e s m below meth c ls A hx hb hr hml hown hts hlocks hname hA hP hK hD hE hl hS
  have hown : s.vm.findClass RX11 = some m.cls := hown
  have hl : lv_has ls 6 [(0, .ref h0), (1, .int 2)] := hl
  refine lv_iload_n hx hb dX11_leaks_0 rfl (lv_at hl 1 rfl) ?_
  refine lv_iconst (v := 0) hx hb dX11_leaks_1 (by decide) ?_
  refine lv_iconst (v := 2) hx hb dX11_leaks_2 (by decide) ?_
  refine q_runP (va_runS (As := [.int 2, .int 0, .int 2]) (rest := []) ⟨hx, hb, hml, hown, hts⟩ (c_isWithin l 2 0 2) (cwS 3 hts (gTS kw4 kw5 kw6 kw3) rfl rfl rfl hd1 ⟨(Nat.le_of_ble_eq_true rfl), (Nat.le_of_ble_eq_true rfl)⟩) preEq rfl rfl hl.1 rfl (lv_room (Nat.le_of_ble_eq_true rfl)) dX11_leaks_3 ⟨(Nat.le_of_ble_eq_true rfl), (Nat.le_of_ble_eq_true rfl)⟩) ?_
  refine lv_lit (v := 1) (bz_t (show pIn 2 0 2 from ⟨by decide, by decide⟩)) ?_
  refine q_runPv (va_runS (As := [.int 1]) (rest := []) ⟨hx, hb, hml, hown, hts⟩ (c_require_1 l) (cwS 1 hts (gTS kw242 kw243 kw244 kw3) rfl rfl rfl hd14 ⟨(Nat.le_of_ble_eq_true rfl), (Nat.le_of_ble_eq_true rfl)⟩) preEq rfl rfl hl.1 rfl (lv_room (Nat.le_of_ble_eq_true rfl)) dX11_leaks_6 ⟨(Nat.le_of_ble_eq_true rfl), (Nat.le_of_ble_eq_true rfl)⟩) ?_
  refine lv_iconst (v := 0) hx hb dX11_leaks_9 (by decide) ?_
  refine lv_istore_n (lv' := [(2, .int 0), (0, .ref h0), (1, .int 2)]) hx hb dX11_leaks_10 rfl hl (by decide) rfl (fun ls hl => ?_)
  refine lv_iconst (v := (-1)) hx hb dX11_leaks_11 (by decide) ?_
  refine lv_istore_n (lv' := [(3, .int (-1)), (2, .int 0), (0, .ref h0), (1, .int 2)]) hx hb dX11_leaks_12 rfl hl (by decide) rfl (fun ls hl => ?_)
  refine lv_iconst (v := (-1)) hx hb dX11_leaks_13 (by decide) ?_
  refine lv_istore (lv' := [(4, .int (-1)), (3, .int (-1)), (2, .int 0), (0, .ref h0), (1, .int 2)]) hx hb dX11_leaks_14 hl (by decide) rfl (fun ls hl => ?_)
  refine lv_iconst (v := 0) hx hb dX11_leaks_16 (by decide) ?_
  refine lv_istore (lv' := [(5, .int 0), (4, .int (-1)), (3, .int (-1)), (2, .int 0), (0, .ref h0), (1, .int 2)]) hx hb dX11_leaks_17 hl (by decide) rfl (fun ls hl => ?_)
  refine lw_loop (σ := Int32) (I := fun n z H ls locs => vL n 0 z (100 + 1) ∧ lv_has ls 6 [(5, .int z), (4, .int (-1)), (3, .int (-1)), (2, .int 0), (0, .ref h0), (1, .int 2)] ∧ va_P D vwCl [(h0, .inr (11, [.int 0, .ref h2, .ref h3, .ref h4, .int 0, .ref h5, .int 0, .ref h6, .ref h1, .ref h7, .ref h8, .int 0, .ref h9, .int (-1), .ref h10])), (h1, .inr (3, [.ref h11, .ref h12, .int 0]))] H ∧ va_D A [(h0, .inr (11, [.int 0, .ref h2, .ref h3, .ref h4, .int 0, .ref h5, .int 0, .ref h6, .ref h1, .ref h7, .ref h8, .int 0, .ref h9, .int (-1), .ref h10])), (h1, .inr (3, [.ref h11, .ref h12, .int 0]))] ∧ va_S A s.heap H locs) ?_ _ 0 _ _ _ ⟨vL.of (by decide), lv_sub hl [0, 1, 2, 3, 4, 5] rfl, hP, hD, hS⟩
  clear hP hD hS hl
  intro n z H ls locs hI ih
  obtain ⟨hv, hl, hP, hD, hS⟩ := hI
  obtain ⟨i1, rfl⟩ : ∃ y, y = z := ⟨_, rfl⟩
  have hv : vL n 0 i1 (100 + 1) := hv
  have hl : lv_has ls 6 [(5, .int i1), (4, .int (-1)), (3, .int (-1)), (2, .int 0), (0, .ref h0), (1, .int 2)] := hl
  have hP : va_P D vwCl [(h0, .inr (11, [.int 0, .ref h2, .ref h3, .ref h4, .int 0, .ref h5, .int 0, .ref h6, .ref h1, .ref h7, .ref h8, .int 0, .ref h9, .int (-1), .ref h10])), (h1, .inr (3, [.ref h11, .ref h12, .int 0]))] H := hP
  have hD : va_D A [(h0, .inr (11, [.int 0, .ref h2, .ref h3, .ref h4, .int 0, .ref h5, .int 0, .ref h6, .ref h1, .ref h7, .ref h8, .int 0, .ref h9, .int (-1), .ref h10])), (h1, .inr (3, [.ref h11, .ref h12, .int 0]))] := hD
  refine lv_iload hx hb dX11_leaks_19 (lv_at hl 0 rfl) ?_
  refine lv_bipush (v := 100) hx hb dX11_leaks_21 (by decide) ?_
  refine lv_icmp_gt (tgt := 63) hx hb dX11_leaks_23 (by decide) (fun c2 => ?_) (fun c2 => ?_)
  · refine lv_iload_n hx hb dX11_leaks_63 rfl (lv_at hl 5 rfl) ?_
    refine lv_if_ne (tgt := 69) hx hb dX11_leaks_64 (by decide) (fun _ => ?_) (fun c9 => absurd c9 (by decide +kernel))
    refine lv_iload_n hx hb dX11_leaks_69 rfl (lv_at hl 5 rfl) ?_
    refine lv_iconst (v := 1) hx hb dX11_leaks_70 (by decide) ?_
    refine lv_icmp_ne (tgt := 78) hx hb dX11_leaks_71 (by decide) (fun _ => ?_) (fun c9 => absurd c9 (by decide +kernel))
    refine lv_iload hx hb dX11_leaks_78 (lv_at hl 1 rfl) ?_
    exact q_iret () hx hb hr hlocks hP hK hD hS [0, 1] [] rfl rfl rfl dX11_leaks_80 (Nat.le_of_ble_eq_true rfl) (Nat.le_of_ble_eq_true rfl)
  · refine lv_aload_n hx hb dX11_leaks_26 rfl (lv_at hl 4 rfl) ?_
    refine va_get (D := D) (ci := 11) (v := .ref h1) (C := RX11) (T := TX11) (N := 15) hx hb hts iX11 hown hK hP 0 rfl rfl 8 (by decide) (hts _ kw92) (fun _ h9 => h9) rfl dX11_leaks_27 ?_
    refine lv_iload hx hb dX11_leaks_30 (lv_at hl 0 rfl) ?_
    refine q_run (D := D) (w1 := w_X3_fits_1 h1 h11 h12 i1) (t1 := t_X3_fits_1) (o := (some (.int 0))) (ws := [(h0, .inr (11, [.int 0, .ref h2, .ref h3, .ref h4, .int 0, .ref h5, .int 0, .ref h6, .ref h1, .ref h7, .ref h8, .int 0, .ref h9, .int (-1), .ref h10])), (h1, .inr (3, [.ref h11, .ref h12, .int 0]))]) (wc := [(h1, .inr (3, [.ref h11, .ref h12, .int 0]))]) (wr := [(h0, .inr (11, [.int 0, .ref h2, .ref h3, .ref h4, .int 0, .ref h5, .int 0, .ref h6, .ref h1, .ref h7, .ref h8, .int 0, .ref h9, .int (-1), .ref h10]))]) (va_runV (C := RX3) (b := h1) (As := [.int i1]) (rest := []) ⟨hx, hb, hml, hown, hts⟩ (c_X3_fits_1 l D h1 h11 h12 i1 H.size) (cwV 1 hts (gTV kw385 kw386 kw387 kw388 kw84) rfl rfl rfl hd38 ⟨(Nat.le_of_ble_eq_true rfl), (Nat.le_of_ble_eq_true rfl)⟩) ⟨SP.blind, q_recv (ws := [(h0, .inr (11, [.int 0, .ref h2, .ref h3, .ref h4, .int 0, .ref h5, .int 0, .ref h6, .ref h1, .ref h7, .ref h8, .int 0, .ref h9, .int (-1), .ref h10])), (h1, .inr (3, [.ref h11, .ref h12, .int 0]))]) (wc := []) (r := (RX3, TX3, 3)) (ci := 3) (i := 1) hP hK rfl rfl, (SP.pre hP hK hD hE [1] [] rfl rfl rfl).2⟩ rfl rfl hl.1 rfl (lv_room (Nat.le_of_ble_eq_true rfl)) dX11_leaks_32 ⟨(Nat.le_of_ble_eq_true rfl), (Nat.le_of_ble_eq_true rfl)⟩) hP hK hD hS hA [1] [0] rfl rfl rfl (by decide) (fun u H locs hP hK hD hS => ?_)
    refine W.eq (g2 := F0 m 35 ls [.int 0]) rfl ?_
    refine W.cs (cells' := 0) (slots' := 0) rfl rfl ?_
    have hP : va_P D vwCl [(h0, .inr (11, [.int 0, .ref h2, .ref h3, .ref h4, .int 0, .ref h5, .int 0, .ref h6, .ref h1, .ref h7, .ref h8, .int 0, .ref h9, .int (-1), .ref h10])), (h1, .inr (3, [.ref h11, .ref h12, .int 0]))] H := hP
    have hD : va_D A [(h0, .inr (11, [.int 0, .ref h2, .ref h3, .ref h4, .int 0, .ref h5, .int 0, .ref h6, .ref h1, .ref h7, .ref h8, .int 0, .ref h9, .int (-1), .ref h10])), (h1, .inr (3, [.ref h11, .ref h12, .int 0]))] := hD
    have hK : va_K D vwCl [] s := hK
    refine lv_if_eq (tgt := 57) hx hb dX11_leaks_35 (by decide) (fun _ => ?_) (fun c9 => absurd (by decide +kernel) c9)
    refine lv_iinc (v := i1 + 1) (lv' := [(5, .int (i1 + 1)), (4, .int (-1)), (3, .int (-1)), (2, .int 0), (0, .ref h0), (1, .int 2)]) hx hb dX11_leaks_57 hl (k := 0) rfl rfl (by decide) rfl (fun ls hl => ?_)
    refine lv_goto (tgt := 19) hx hb dX11_leaks_60 (by decide) ?_
    exact ih _ (i1 + 1) _ _ _ (hv.stepG (by decide) c2).1 ⟨(hv.stepG (by decide) c2).2, lv_sub hl [0, 1, 2, 3, 4, 5] rfl, hP, hD, hS⟩
