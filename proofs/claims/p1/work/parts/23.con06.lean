abbrev w_X11_ways_1 (h0 h1 h2 h3 h4 h5 h6 h7 h8 h9 h10 h11 h12 h13 h14 h15 h16 h17 h18 h19 : Nat) (_ : Unit) : va_W := [(h0, .inr (11, [.int 0, .ref h2, .ref h3, .ref h4, .int 0, .ref h5, .int 0, .ref h1, .ref h6, .ref h7, .ref h8, .int 0, .ref h9, .int (-1), .ref h10])), (h1, .inr (7, [.ref h11, .ref h12, .ref h13, .ref h14, .ref h15, .ref h16, .ref h17, .ref h18, .ref h19, .int 0, .int 1, .int 0, .int 0]))]
abbrev t_X11_ways_1 (_ : Unit) : List (ClassId × FieldType) := []
abbrev Q_X11_ways_1 (D : va_G) (h0 h1 h2 h3 h4 h5 h6 h7 h8 h9 h10 h11 h12 h13 h14 h15 h16 h17 h18 h19 : Nat) (A : Nat → Prop) : Array Value → State → Outcome → State → Prop := QW (.returned (some (.int 0))) D (w_X11_ways_1 h0 h1 h2 h3 h4 h5 h6 h7 h8 h9 h10 h11 h12 h13 h14 h15 h16 h17 h18 h19) t_X11_ways_1 A
set_option maxHeartbeats 4000000 in
set_option maxRecDepth 100000 in
theorem c_X11_ways_1 (l : Launch) (D : va_G) (h0 h1 h2 h3 h4 h5 h6 h7 h8 h9 h10 h11 h12 h13 h14 h15 h16 h17 h18 h19 : Nat) (sz : Nat) : Met l yX11_ways (.code yX11_ways cX11_ways 1 (some .int) :: wT) ({ frames := 1, cells := 0, slots := 0, locals := 23 } : Room) (SP D [.ref h0] [(h0, .inr (11, [.int 0, .ref h2, .ref h3, .ref h4, .int 0, .ref h5, .int 0, .ref h1, .ref h6, .ref h7, .ref h8, .int 0, .ref h9, .int (-1), .ref h10])), (h1, .inr (7, [.ref h11, .ref h12, .ref h13, .ref h14, .ref h15, .ref h16, .ref h17, .ref h18, .ref h19, .int 0, .int 0, .int 0, .int 0]))] [] sz) (Q_X11_ways_1 D h0 h1 h2 h3 h4 h5 h6 h7 h8 h9 h10 h11 h12 h13 h14 h15 h16 h17 h18 h19 (va_A [(h0, .inr (11, [.int 0, .ref h2, .ref h3, .ref h4, .int 0, .ref h5, .int 0, .ref h1, .ref h6, .ref h7, .ref h8, .int 0, .ref h9, .int (-1), .ref h10])), (h1, .inr (7, [.ref h11, .ref h12, .ref h13, .ref h14, .ref h15, .ref h16, .ref h17, .ref h18, .ref h19, .int 0, .int 0, .int 0, .int 0]))] sz)) 0 0 (va_A [(h0, .inr (11, [.int 0, .ref h2, .ref h3, .ref h4, .int 0, .ref h5, .int 0, .ref h1, .ref h6, .ref h7, .ref h8, .int 0, .ref h9, .int (-1), .ref h10])), (h1, .inr (7, [.ref h11, .ref h12, .ref h13, .ref h14, .ref h15, .ref h16, .ref h17, .ref h18, .ref h19, .int 0, .int 0, .int 0, .int 0]))] sz) := by
  refine SP.start (Qf := Q_X11_ways_1 D h0 h1 h2 h3 h4 h5 h6 h7 h8 h9 h10 h11 h12 h13 h14 h15 h16 h17 h18 h19) (by decide) (Nat.le_of_ble_eq_true rfl) ?_
  intro p e s m below meth c ls A hx hb hr hml hown hts hlocks hname hA hP hK hD hE hl hS
  have hown : s.vm.findClass RX11 = some m.cls := hown
  have hl : lv_has ls 1 [(0, .ref h0)] := hl
  refine lv_aload_n hx hb dX11_ways_0 rfl (lv_at hl 0 rfl) ?_
  refine va_get (D := D) (ci := 11) (v := .ref h1) (C := RX11) (T := TX11) (N := 15) hx hb hts iX11 hown hK hP 0 rfl rfl 7 (by decide) (hts _ kw81) (fun _ h9 => h9) rfl dX11_ways_1 ?_
  refine lv_aload_n hx hb dX11_ways_4 rfl (lv_at hl 0 rfl) ?_
  refine va_get (D := D) (ci := 11) (v := .ref h2) (C := RX11) (T := TX11) (N := 15) hx hb hts iX11 hown hK hP 0 rfl rfl 1 (by decide) (hts _ kw34) (fun _ h9 => h9) rfl dX11_ways_5 ?_
  refine q_run (D := D) (w1 := w_X7_findWays_1 h1 h2 h11 h12 h13 h14 h15 h16 h17 h18 h19) (t1 := t_X7_findWays_1) (o := none) (ws := [(h0, .inr (11, [.int 0, .ref h2, .ref h3, .ref h4, .int 0, .ref h5, .int 0, .ref h1, .ref h6, .ref h7, .ref h8, .int 0, .ref h9, .int (-1), .ref h10])), (h1, .inr (7, [.ref h11, .ref h12, .ref h13, .ref h14, .ref h15, .ref h16, .ref h17, .ref h18, .ref h19, .int 0, .int 0, .int 0, .int 0]))]) (wc := [(h1, .inr (7, [.ref h11, .ref h12, .ref h13, .ref h14, .ref h15, .ref h16, .ref h17, .ref h18, .ref h19, .int 0, .int 0, .int 0, .int 0]))]) (wr := [(h0, .inr (11, [.int 0, .ref h2, .ref h3, .ref h4, .int 0, .ref h5, .int 0, .ref h1, .ref h6, .ref h7, .ref h8, .int 0, .ref h9, .int (-1), .ref h10]))]) (va_runV (C := RX7) (b := h1) (As := [.ref h2]) (rest := []) ⟨hx, hb, hml, hown, hts⟩ (c_X7_findWays_1 l D h1 h2 h11 h12 h13 h14 h15 h16 h17 h18 h19 s.heap.size) (cwV 1 hts (gTV kw403 kw404 kw405 kw406 kw63) rfl rfl rfl hd42 ⟨(Nat.le_of_ble_eq_true rfl), (Nat.le_of_ble_eq_true rfl)⟩) ⟨SP.blind, q_recv (ws := [(h0, .inr (11, [.int 0, .ref h2, .ref h3, .ref h4, .int 0, .ref h5, .int 0, .ref h1, .ref h6, .ref h7, .ref h8, .int 0, .ref h9, .int (-1), .ref h10])), (h1, .inr (7, [.ref h11, .ref h12, .ref h13, .ref h14, .ref h15, .ref h16, .ref h17, .ref h18, .ref h19, .int 0, .int 0, .int 0, .int 0]))]) (wc := []) (r := (RX7, TX7, 13)) (ci := 7) (i := 1) hP hK rfl rfl, (SP.pre hP hK hD hE [1] [] rfl rfl rfl).2⟩ rfl rfl hl.1 rfl (lv_room (Nat.le_of_ble_eq_true rfl)) dX11_ways_8 ⟨(Nat.le_of_ble_eq_true rfl), (Nat.le_of_ble_eq_true rfl)⟩) hP hK hD hS hA [1] [0] rfl rfl rfl (by decide) (fun u H locs hP hK hD hS => ?_)
  refine W.eq (g2 := F0 m 11 ls []) rfl ?_
  refine W.cs (cells' := 0) (slots' := 0) rfl rfl ?_
  have hP : va_P D vwCl [(h0, .inr (11, [.int 0, .ref h2, .ref h3, .ref h4, .int 0, .ref h5, .int 0, .ref h1, .ref h6, .ref h7, .ref h8, .int 0, .ref h9, .int (-1), .ref h10])), (h1, .inr (7, [.ref h11, .ref h12, .ref h13, .ref h14, .ref h15, .ref h16, .ref h17, .ref h18, .ref h19, .int 0, .int 1, .int 0, .int 0]))] H := hP
  have hD : va_D A [(h0, .inr (11, [.int 0, .ref h2, .ref h3, .ref h4, .int 0, .ref h5, .int 0, .ref h1, .ref h6, .ref h7, .ref h8, .int 0, .ref h9, .int (-1), .ref h10])), (h1, .inr (7, [.ref h11, .ref h12, .ref h13, .ref h14, .ref h15, .ref h16, .ref h17, .ref h18, .ref h19, .int 0, .int 1, .int 0, .int 0]))] := hD
  have hK : va_K D vwCl [] s := hK
  refine lv_aload_n hx hb dX11_ways_11 rfl (lv_at hl 0 rfl) ?_
  refine va_get (D := D) (ci := 11) (v := .ref h1) (C := RX11) (T := TX11) (N := 15) hx hb hts iX11 hown hK hP 0 rfl rfl 7 (by decide) (hts _ kw81) (fun _ h9 => h9) rfl dX11_ways_12 ?_
  refine va_get (D := D) (ci := 7) (v := .int 0) (C := RX7) (T := TX7) (N := 13) hx hb hts iX7 hown hK hP 1 rfl rfl 12 (by decide) (hts _ kw407) (fun _ h9 => h9) rfl dX11_ways_15 ?_
  exact q_iret () hx hb hr hlocks hP hK hD hS [0, 1] [] rfl rfl rfl dX11_ways_18 (Nat.le_of_ble_eq_true rfl) (Nat.le_of_ble_eq_true rfl)
abbrev w_X7_firstWayLevel_1 (h0 h1 h2 h3 h4 h5 h6 h7 h8 h9 : Nat) (a0 : Int32) (_ : Unit) : va_W := [(h0, .inr (7, [.ref h1, .ref h2, .ref h3, .ref h4, .ref h5, .ref h6, .ref h7, .ref h8, .ref h9, .int 0, .int 1, .int 0, .int 0]))]
abbrev t_X7_firstWayLevel_1 (_ : Unit) : List (ClassId × FieldType) := []
abbrev Q_X7_firstWayLevel_1 (D : va_G) (h0 h1 h2 h3 h4 h5 h6 h7 h8 h9 : Nat) (a0 : Int32) (A : Nat → Prop) : Array Value → State → Outcome → State → Prop := QW (.returned (some (.int (-1)))) D (w_X7_firstWayLevel_1 h0 h1 h2 h3 h4 h5 h6 h7 h8 h9 a0) t_X7_firstWayLevel_1 A
set_option maxHeartbeats 4000000 in
set_option maxRecDepth 100000 in
theorem c_X7_firstWayLevel_1 (l : Launch) (D : va_G) (h0 h1 h2 h3 h4 h5 h6 h7 h8 h9 : Nat) (a0 : Int32) (sz : Nat) : Met l yX7_firstWayLevel (.code yX7_firstWayLevel cX7_firstWayLevel 2 (some .int) :: wT) ({ frames := 0, cells := 0, slots := 0, locals := 0 } : Room) (SP D [.ref h0, .int a0] [(h0, .inr (7, [.ref h1, .ref h2, .ref h3, .ref h4, .ref h5, .ref h6, .ref h7, .ref h8, .ref h9, .int 0, .int 1, .int 0, .int 0]))] [] sz) (Q_X7_firstWayLevel_1 D h0 h1 h2 h3 h4 h5 h6 h7 h8 h9 a0 (va_A [(h0, .inr (7, [.ref h1, .ref h2, .ref h3, .ref h4, .ref h5, .ref h6, .ref h7, .ref h8, .ref h9, .int 0, .int 1, .int 0, .int 0]))] sz)) 0 0 (va_A [(h0, .inr (7, [.ref h1, .ref h2, .ref h3, .ref h4, .ref h5, .ref h6, .ref h7, .ref h8, .ref h9, .int 0, .int 1, .int 0, .int 0]))] sz) := by
  refine SP.start (Qf := Q_X7_firstWayLevel_1 D h0 h1 h2 h3 h4 h5 h6 h7 h8 h9 a0) (by decide) (Nat.le_of_ble_eq_true rfl) ?_
  intro p e s m below meth c ls A hx hb hr hml hown hts hlocks hname hA hP hK hD hE hl hS
  have hown : s.vm.findClass RX7 = some m.cls := hown
  have hl : lv_has ls 2 [(0, .ref h0), (1, .int a0)] := hl
  refine lv_iload_n hx hb dX7_firstWayLevel_0 rfl (lv_at hl 1 rfl) ?_
  refine lv_if_lt (tgt := 27) hx hb dX7_firstWayLevel_1 (by decide) (fun c1 => ?_) (fun c1 => ?_)
  · refine lv_iconst (v := (-1)) hx hb dX7_firstWayLevel_27 (by decide) ?_
    exact q_iret () hx hb hr hlocks hP hK hD hS [0] [] rfl rfl rfl dX7_firstWayLevel_28 (Nat.le_of_ble_eq_true rfl) (Nat.le_of_ble_eq_true rfl)
  · refine lv_iload_n hx hb dX7_firstWayLevel_4 rfl (lv_at hl 1 rfl) ?_
    refine lv_aload_n hx hb dX7_firstWayLevel_5 rfl (lv_at hl 0 rfl) ?_
    refine va_get (D := D) (ci := 7) (v := .int 0) (C := RX7) (T := TX7) (N := 13) hx hb hts iX7 hown hK hP 0 rfl rfl 9 (by decide) (hts _ kw74) (fun _ h9 => h9) rfl dX7_firstWayLevel_6 ?_
    refine lv_icmp_ge (tgt := 27) hx hb dX7_firstWayLevel_9 (by decide) (fun _ => ?_) (fun c9 => absurd (Int32.not_lt.mp c1) c9)
    refine lv_iconst (v := (-1)) hx hb dX7_firstWayLevel_27 (by decide) ?_
    exact q_iret () hx hb hr hlocks hP hK hD hS [0] [] rfl rfl rfl dX7_firstWayLevel_28 (Nat.le_of_ble_eq_true rfl) (Nat.le_of_ble_eq_true rfl)
abbrev w_X11_way_1 (h0 h1 h2 h3 h4 h5 h6 h7 h8 h9 h10 h11 h12 h13 h14 h15 h16 h17 h18 h19 : Nat) (a0 : Int32) (_ : Unit) : va_W := [(h0, .inr (11, [.int 0, .ref h2, .ref h3, .ref h4, .int 0, .ref h5, .int 0, .ref h1, .ref h6, .ref h7, .ref h8, .int 0, .ref h9, .int (-1), .ref h10])), (h1, .inr (7, [.ref h11, .ref h12, .ref h13, .ref h14, .ref h15, .ref h16, .ref h17, .ref h18, .ref h19, .int 0, .int 1, .int 0, .int 0]))]
abbrev t_X11_way_1 (_ : Unit) : List (ClassId × FieldType) := []
abbrev Q_X11_way_1 (D : va_G) (h0 h1 h2 h3 h4 h5 h6 h7 h8 h9 h10 h11 h12 h13 h14 h15 h16 h17 h18 h19 : Nat) (a0 : Int32) (A : Nat → Prop) : Array Value → State → Outcome → State → Prop := QW (.returned (some (.int (-1)))) D (w_X11_way_1 h0 h1 h2 h3 h4 h5 h6 h7 h8 h9 h10 h11 h12 h13 h14 h15 h16 h17 h18 h19 a0) t_X11_way_1 A
set_option maxHeartbeats 4000000 in
set_option maxRecDepth 100000 in
theorem c_X11_way_1 (l : Launch) (D : va_G) (h0 h1 h2 h3 h4 h5 h6 h7 h8 h9 h10 h11 h12 h13 h14 h15 h16 h17 h18 h19 : Nat) (a0 : Int32) (sz : Nat) : Met l yX11_way (.code yX11_way cX11_way 2 (some .int) :: wT) ({ frames := 1, cells := 0, slots := 0, locals := 23 } : Room) (SP D [.ref h0, .int a0] [(h0, .inr (11, [.int 0, .ref h2, .ref h3, .ref h4, .int 0, .ref h5, .int 0, .ref h1, .ref h6, .ref h7, .ref h8, .int 0, .ref h9, .int (-1), .ref h10])), (h1, .inr (7, [.ref h11, .ref h12, .ref h13, .ref h14, .ref h15, .ref h16, .ref h17, .ref h18, .ref h19, .int 0, .int 0, .int 0, .int 0]))] [] sz) (Q_X11_way_1 D h0 h1 h2 h3 h4 h5 h6 h7 h8 h9 h10 h11 h12 h13 h14 h15 h16 h17 h18 h19 a0 (va_A [(h0, .inr (11, [.int 0, .ref h2, .ref h3, .ref h4, .int 0, .ref h5, .int 0, .ref h1, .ref h6, .ref h7, .ref h8, .int 0, .ref h9, .int (-1), .ref h10])), (h1, .inr (7, [.ref h11, .ref h12, .ref h13, .ref h14, .ref h15, .ref h16, .ref h17, .ref h18, .ref h19, .int 0, .int 0, .int 0, .int 0]))] sz)) 0 0 (va_A [(h0, .inr (11, [.int 0, .ref h2, .ref h3, .ref h4, .int 0, .ref h5, .int 0, .ref h1, .ref h6, .ref h7, .ref h8, .int 0, .ref h9, .int (-1), .ref h10])), (h1, .inr (7, [.ref h11, .ref h12, .ref h13, .ref h14, .ref h15, .ref h16, .ref h17, .ref h18, .ref h19, .int 0, .int 0, .int 0, .int 0]))] sz) := by
  refine SP.start (Qf := Q_X11_way_1 D h0 h1 h2 h3 h4 h5 h6 h7 h8 h9 h10 h11 h12 h13 h14 h15 h16 h17 h18 h19 a0) (by decide) (Nat.le_of_ble_eq_true rfl) ?_
  intro p e s m below meth c ls A hx hb hr hml hown hts hlocks hname hA hP hK hD hE hl hS
  have hown : s.vm.findClass RX11 = some m.cls := hown
  have hl : lv_has ls 2 [(0, .ref h0), (1, .int a0)] := hl
  refine lv_aload_n hx hb dX11_way_0 rfl (lv_at hl 0 rfl) ?_
  refine va_get (D := D) (ci := 11) (v := .ref h1) (C := RX11) (T := TX11) (N := 15) hx hb hts iX11 hown hK hP 0 rfl rfl 7 (by decide) (hts _ kw81) (fun _ h9 => h9) rfl dX11_way_1 ?_
  refine lv_aload_n hx hb dX11_way_4 rfl (lv_at hl 0 rfl) ?_
  refine va_get (D := D) (ci := 11) (v := .ref h2) (C := RX11) (T := TX11) (N := 15) hx hb hts iX11 hown hK hP 0 rfl rfl 1 (by decide) (hts _ kw34) (fun _ h9 => h9) rfl dX11_way_5 ?_
  refine q_run (D := D) (w1 := w_X7_findWays_1 h1 h2 h11 h12 h13 h14 h15 h16 h17 h18 h19) (t1 := t_X7_findWays_1) (o := none) (ws := [(h0, .inr (11, [.int 0, .ref h2, .ref h3, .ref h4, .int 0, .ref h5, .int 0, .ref h1, .ref h6, .ref h7, .ref h8, .int 0, .ref h9, .int (-1), .ref h10])), (h1, .inr (7, [.ref h11, .ref h12, .ref h13, .ref h14, .ref h15, .ref h16, .ref h17, .ref h18, .ref h19, .int 0, .int 0, .int 0, .int 0]))]) (wc := [(h1, .inr (7, [.ref h11, .ref h12, .ref h13, .ref h14, .ref h15, .ref h16, .ref h17, .ref h18, .ref h19, .int 0, .int 0, .int 0, .int 0]))]) (wr := [(h0, .inr (11, [.int 0, .ref h2, .ref h3, .ref h4, .int 0, .ref h5, .int 0, .ref h1, .ref h6, .ref h7, .ref h8, .int 0, .ref h9, .int (-1), .ref h10]))]) (va_runV (C := RX7) (b := h1) (As := [.ref h2]) (rest := []) ⟨hx, hb, hml, hown, hts⟩ (c_X7_findWays_1 l D h1 h2 h11 h12 h13 h14 h15 h16 h17 h18 h19 s.heap.size) (cwV 1 hts (gTV kw403 kw404 kw405 kw406 kw63) rfl rfl rfl hd42 ⟨(Nat.le_of_ble_eq_true rfl), (Nat.le_of_ble_eq_true rfl)⟩) ⟨SP.blind, q_recv (ws := [(h0, .inr (11, [.int 0, .ref h2, .ref h3, .ref h4, .int 0, .ref h5, .int 0, .ref h1, .ref h6, .ref h7, .ref h8, .int 0, .ref h9, .int (-1), .ref h10])), (h1, .inr (7, [.ref h11, .ref h12, .ref h13, .ref h14, .ref h15, .ref h16, .ref h17, .ref h18, .ref h19, .int 0, .int 0, .int 0, .int 0]))]) (wc := []) (r := (RX7, TX7, 13)) (ci := 7) (i := 1) hP hK rfl rfl, (SP.pre hP hK hD hE [1] [] rfl rfl rfl).2⟩ rfl rfl hl.1 rfl (lv_room (Nat.le_of_ble_eq_true rfl)) dX11_way_8 ⟨(Nat.le_of_ble_eq_true rfl), (Nat.le_of_ble_eq_true rfl)⟩) hP hK hD hS hA [1] [0] rfl rfl rfl (by decide) (fun u H locs hP hK hD hS => ?_)
  refine W.eq (g2 := F0 m 11 ls []) rfl ?_
  refine W.cs (cells' := 0) (slots' := 0) rfl rfl ?_
  have hP : va_P D vwCl [(h0, .inr (11, [.int 0, .ref h2, .ref h3, .ref h4, .int 0, .ref h5, .int 0, .ref h1, .ref h6, .ref h7, .ref h8, .int 0, .ref h9, .int (-1), .ref h10])), (h1, .inr (7, [.ref h11, .ref h12, .ref h13, .ref h14, .ref h15, .ref h16, .ref h17, .ref h18, .ref h19, .int 0, .int 1, .int 0, .int 0]))] H := hP
  have hD : va_D A [(h0, .inr (11, [.int 0, .ref h2, .ref h3, .ref h4, .int 0, .ref h5, .int 0, .ref h1, .ref h6, .ref h7, .ref h8, .int 0, .ref h9, .int (-1), .ref h10])), (h1, .inr (7, [.ref h11, .ref h12, .ref h13, .ref h14, .ref h15, .ref h16, .ref h17, .ref h18, .ref h19, .int 0, .int 1, .int 0, .int 0]))] := hD
  have hK : va_K D vwCl [] s := hK
  refine lv_aload_n hx hb dX11_way_11 rfl (lv_at hl 0 rfl) ?_
  refine va_get (D := D) (ci := 11) (v := .ref h1) (C := RX11) (T := TX11) (N := 15) hx hb hts iX11 hown hK hP 0 rfl rfl 7 (by decide) (hts _ kw81) (fun _ h9 => h9) rfl dX11_way_12 ?_
  refine lv_iload_n hx hb dX11_way_15 rfl (lv_at hl 1 rfl) ?_
  refine q_run (D := D) (w1 := w_X7_firstWayLevel_1 h1 h11 h12 h13 h14 h15 h16 h17 h18 h19 a0) (t1 := t_X7_firstWayLevel_1) (o := (some (.int (-1)))) (ws := [(h0, .inr (11, [.int 0, .ref h2, .ref h3, .ref h4, .int 0, .ref h5, .int 0, .ref h1, .ref h6, .ref h7, .ref h8, .int 0, .ref h9, .int (-1), .ref h10])), (h1, .inr (7, [.ref h11, .ref h12, .ref h13, .ref h14, .ref h15, .ref h16, .ref h17, .ref h18, .ref h19, .int 0, .int 1, .int 0, .int 0]))]) (wc := [(h1, .inr (7, [.ref h11, .ref h12, .ref h13, .ref h14, .ref h15, .ref h16, .ref h17, .ref h18, .ref h19, .int 0, .int 1, .int 0, .int 0]))]) (wr := [(h0, .inr (11, [.int 0, .ref h2, .ref h3, .ref h4, .int 0, .ref h5, .int 0, .ref h1, .ref h6, .ref h7, .ref h8, .int 0, .ref h9, .int (-1), .ref h10]))]) (va_runV (C := RX7) (b := h1) (As := [.int a0]) (rest := []) ⟨hx, hb, hml, hown, hts⟩ (c_X7_firstWayLevel_1 l D h1 h11 h12 h13 h14 h15 h16 h17 h18 h19 a0 H.size) (cwV 1 hts (gTV kw408 kw409 kw410 kw411 kw63) rfl rfl rfl hd43 ⟨(Nat.le_of_ble_eq_true rfl), (Nat.le_of_ble_eq_true rfl)⟩) ⟨SP.blind, q_recv (ws := [(h0, .inr (11, [.int 0, .ref h2, .ref h3, .ref h4, .int 0, .ref h5, .int 0, .ref h1, .ref h6, .ref h7, .ref h8, .int 0, .ref h9, .int (-1), .ref h10])), (h1, .inr (7, [.ref h11, .ref h12, .ref h13, .ref h14, .ref h15, .ref h16, .ref h17, .ref h18, .ref h19, .int 0, .int 1, .int 0, .int 0]))]) (wc := []) (r := (RX7, TX7, 13)) (ci := 7) (i := 1) hP hK rfl rfl, (SP.pre hP hK hD hE [1] [] rfl rfl rfl).2⟩ rfl rfl hl.1 rfl (lv_room (Nat.le_of_ble_eq_true rfl)) dX11_way_16 ⟨(Nat.le_of_ble_eq_true rfl), (Nat.le_of_ble_eq_true rfl)⟩) hP hK hD hS hA [1] [0] rfl rfl rfl (by decide) (fun u H locs hP hK hD hS => ?_)
  refine W.eq (g2 := F0 m 19 ls [.int (-1)]) rfl ?_
  refine W.cs (cells' := 0) (slots' := 0) rfl rfl ?_
  have hP : va_P D vwCl [(h0, .inr (11, [.int 0, .ref h2, .ref h3, .ref h4, .int 0, .ref h5, .int 0, .ref h1, .ref h6, .ref h7, .ref h8, .int 0, .ref h9, .int (-1), .ref h10])), (h1, .inr (7, [.ref h11, .ref h12, .ref h13, .ref h14, .ref h15, .ref h16, .ref h17, .ref h18, .ref h19, .int 0, .int 1, .int 0, .int 0]))] H := hP
  have hD : va_D A [(h0, .inr (11, [.int 0, .ref h2, .ref h3, .ref h4, .int 0, .ref h5, .int 0, .ref h1, .ref h6, .ref h7, .ref h8, .int 0, .ref h9, .int (-1), .ref h10])), (h1, .inr (7, [.ref h11, .ref h12, .ref h13, .ref h14, .ref h15, .ref h16, .ref h17, .ref h18, .ref h19, .int 0, .int 1, .int 0, .int 0]))] := hD
  have hK : va_K D vwCl [] s := hK
  exact q_iret () hx hb hr hlocks hP hK hD hS [0, 1] [] rfl rfl rfl dX11_way_19 (Nat.le_of_ble_eq_true rfl) (Nat.le_of_ble_eq_true rfl)
abbrev w_X11_unlog_1 (h0 h1 h2 h3 h4 h5 h6 h7 h8 h9 h10 h11 h12 : Nat) (_ : Unit) : va_W := [(h0, .inr (11, [.int 0, .ref h2, .ref h3, .ref h4, .int 0, .ref h5, .int 0, .ref h6, .ref h1, .ref h7, .ref h8, .int 0, .ref h9, .int (-1), .ref h10])), (h1, .inr (3, [.ref h11, .ref h12, .int 0]))]
abbrev t_X11_unlog_1 (_ : Unit) : List (ClassId × FieldType) := []
abbrev Q_X11_unlog_1 (D : va_G) (h0 h1 h2 h3 h4 h5 h6 h7 h8 h9 h10 h11 h12 : Nat) (A : Nat → Prop) : Array Value → State → Outcome → State → Prop := QW (.returned (some (.int 0))) D (w_X11_unlog_1 h0 h1 h2 h3 h4 h5 h6 h7 h8 h9 h10 h11 h12) t_X11_unlog_1 A
set_option maxHeartbeats 4000000 in
set_option maxRecDepth 100000 in
theorem c_X11_unlog_1 (l : Launch) (D : va_G) (h0 h1 h2 h3 h4 h5 h6 h7 h8 h9 h10 h11 h12 : Nat) (sz : Nat) : Met l yX11_unlog (.code yX11_unlog cX11_unlog 2 (some .int) :: wT) ({ frames := 0, cells := 0, slots := 0, locals := 0 } : Room) (SP D [.ref h0] [(h0, .inr (11, [.int 0, .ref h2, .ref h3, .ref h4, .int 0, .ref h5, .int 0, .ref h6, .ref h1, .ref h7, .ref h8, .int 0, .ref h9, .int (-1), .ref h10])), (h1, .inr (3, [.ref h11, .ref h12, .int 0]))] [] sz) (Q_X11_unlog_1 D h0 h1 h2 h3 h4 h5 h6 h7 h8 h9 h10 h11 h12 (va_A [(h0, .inr (11, [.int 0, .ref h2, .ref h3, .ref h4, .int 0, .ref h5, .int 0, .ref h6, .ref h1, .ref h7, .ref h8, .int 0, .ref h9, .int (-1), .ref h10])), (h1, .inr (3, [.ref h11, .ref h12, .int 0]))] sz)) 0 0 (va_A [(h0, .inr (11, [.int 0, .ref h2, .ref h3, .ref h4, .int 0, .ref h5, .int 0, .ref h6, .ref h1, .ref h7, .ref h8, .int 0, .ref h9, .int (-1), .ref h10])), (h1, .inr (3, [.ref h11, .ref h12, .int 0]))] sz) := by
  refine SP.start (Qf := Q_X11_unlog_1 D h0 h1 h2 h3 h4 h5 h6 h7 h8 h9 h10 h11 h12) (by decide) (Nat.le_of_ble_eq_true rfl) ?_
  intro p e s m below meth c ls A hx hb hr hml hown hts hlocks hname hA hP hK hD hE hl hS
  have hown : s.vm.findClass RX11 = some m.cls := hown
  have hl : lv_has ls 2 [(0, .ref h0)] := hl
  refine lv_aload_n hx hb dX11_unlog_0 rfl (lv_at hl 0 rfl) ?_
  refine va_get (D := D) (ci := 11) (v := .ref h1) (C := RX11) (T := TX11) (N := 15) hx hb hts iX11 hown hK hP 0 rfl rfl 8 (by decide) (hts _ kw92) (fun _ h9 => h9) rfl dX11_unlog_1 ?_
  refine va_get (D := D) (ci := 3) (v := .int 0) (C := RX3) (T := TX3) (N := 3) hx hb hts iX3 hown hK hP 1 rfl rfl 2 (by decide) (hts _ kw412) (fun _ h9 => h9) rfl dX11_unlog_4 ?_
  refine lv_istore_n (lv' := [(1, .int 0), (0, .ref h0)]) hx hb dX11_unlog_7 rfl hl (by decide) rfl (fun ls hl => ?_)
  refine lv_aload_n hx hb dX11_unlog_8 rfl (lv_at hl 1 rfl) ?_
  refine va_get (D := D) (ci := 11) (v := .ref h1) (C := RX11) (T := TX11) (N := 15) hx hb hts iX11 hown hK hP 0 rfl rfl 8 (by decide) (hts _ kw92) (fun _ h9 => h9) rfl dX11_unlog_9 ?_
  refine lv_iconst (v := 0) hx hb dX11_unlog_12 (by decide) ?_
  refine va_put (D := D) (ci := 3) (v := .int 0) (ty := .int) (C := RX3) (T := TX3) (N := 3) hx hb hts iX3 tyX3 tyX3_ok nmX3 hown hK hP hD hS 1 rfl rfl 2 (by decide) (hts _ kw412) (fun _ h9 => h9) rfl (tyX3_ok 2 (by decide)) rfl rfl (Nat.le_of_ble_eq_true rfl) dX11_unlog_13 (fun H locs hP hD hS => ?_)
  have hP : va_P D vwCl [(h0, .inr (11, [.int 0, .ref h2, .ref h3, .ref h4, .int 0, .ref h5, .int 0, .ref h6, .ref h1, .ref h7, .ref h8, .int 0, .ref h9, .int (-1), .ref h10])), (h1, .inr (3, [.ref h11, .ref h12, .int 0]))] H := hP
  have hD : va_D A [(h0, .inr (11, [.int 0, .ref h2, .ref h3, .ref h4, .int 0, .ref h5, .int 0, .ref h6, .ref h1, .ref h7, .ref h8, .int 0, .ref h9, .int (-1), .ref h10])), (h1, .inr (3, [.ref h11, .ref h12, .int 0]))] := hD
  refine lv_iload_n hx hb dX11_unlog_16 rfl (lv_at hl 0 rfl) ?_
  exact q_iret () hx hb hr hlocks hP hK hD hS [0, 1] [] rfl rfl rfl dX11_unlog_17 (Nat.le_of_ble_eq_true rfl) (Nat.le_of_ble_eq_true rfl)
abbrev w_X11_ranked_1 (h0 h1 h2 h3 h4 h5 h6 h7 h8 h9 h10 : Nat) (a0 a1 : Int32) (_ : Unit) : va_W := [(h0, .inr (11, [.int 0, .ref h1, .ref h2, .ref h3, .int 0, .ref h4, .int 0, .ref h5, .ref h6, .ref h7, .ref h8, .int 0, .ref h9, .int (-1), .ref h10]))]
abbrev t_X11_ranked_1 (_ : Unit) : List (ClassId × FieldType) := []
abbrev Q_X11_ranked_1 (D : va_G) (h0 h1 h2 h3 h4 h5 h6 h7 h8 h9 h10 : Nat) (a0 a1 : Int32) (A : Nat → Prop) : Array Value → State → Outcome → State → Prop := QW (.returned (some (.int (-1)))) D (w_X11_ranked_1 h0 h1 h2 h3 h4 h5 h6 h7 h8 h9 h10 a0 a1) t_X11_ranked_1 A
set_option maxHeartbeats 4000000 in
set_option maxRecDepth 100000 in
theorem c_X11_ranked_1 (l : Launch) (D : va_G) (h0 h1 h2 h3 h4 h5 h6 h7 h8 h9 h10 : Nat) (a0 a1 : Int32) (sz : Nat) : Met l yX11_ranked (.code yX11_ranked cX11_ranked 4 (some .int) :: wT) ({ frames := 0, cells := 0, slots := 0, locals := 0 } : Room) (SP D [.ref h0, .int a0, .int a1] [(h0, .inr (11, [.int 0, .ref h1, .ref h2, .ref h3, .int 0, .ref h4, .int 0, .ref h5, .ref h6, .ref h7, .ref h8, .int 0, .ref h9, .int (-1), .ref h10]))] [] sz) (Q_X11_ranked_1 D h0 h1 h2 h3 h4 h5 h6 h7 h8 h9 h10 a0 a1 (va_A [(h0, .inr (11, [.int 0, .ref h1, .ref h2, .ref h3, .int 0, .ref h4, .int 0, .ref h5, .ref h6, .ref h7, .ref h8, .int 0, .ref h9, .int (-1), .ref h10]))] sz)) 0 0 (va_A [(h0, .inr (11, [.int 0, .ref h1, .ref h2, .ref h3, .int 0, .ref h4, .int 0, .ref h5, .ref h6, .ref h7, .ref h8, .int 0, .ref h9, .int (-1), .ref h10]))] sz) := by
  refine SP.start (Qf := Q_X11_ranked_1 D h0 h1 h2 h3 h4 h5 h6 h7 h8 h9 h10 a0 a1) (by decide) (Nat.le_of_ble_eq_true rfl) ?_
  intro p e s m below meth c ls A hx hb hr hml hown hts hlocks hname hA hP hK hD hE hl hS
  have hown : s.vm.findClass RX11 = some m.cls := hown
  have hl : lv_has ls 4 [(0, .ref h0), (1, .int a0), (2, .int a1)] := hl
  refine lv_iconst (v := 0) hx hb dX11_ranked_0 (by decide) ?_
  refine lv_istore_n (lv' := [(3, .int 0), (0, .ref h0), (1, .int a0), (2, .int a1)]) hx hb dX11_ranked_1 rfl hl (by decide) rfl (fun ls hl => ?_)
  refine lv_iload_n hx hb dX11_ranked_2 rfl (lv_at hl 0 rfl) ?_
  refine lv_aload_n hx hb dX11_ranked_3 rfl (lv_at hl 1 rfl) ?_
  refine va_get (D := D) (ci := 11) (v := .int 0) (C := RX11) (T := TX11) (N := 15) hx hb hts iX11 hown hK hP 0 rfl rfl 4 (by decide) (hts _ kw57) (fun _ h9 => h9) rfl dX11_ranked_4 ?_
  refine lv_icmp_ge (tgt := 41) hx hb dX11_ranked_7 (by decide) (fun _ => ?_) (fun c9 => absurd (by decide +kernel) c9)
  refine lv_iconst (v := (-1)) hx hb dX11_ranked_41 (by decide) ?_
  exact q_iret () hx hb hr hlocks hP hK hD hS [0] [] rfl rfl rfl dX11_ranked_42 (Nat.le_of_ble_eq_true rfl) (Nat.le_of_ble_eq_true rfl)
abbrev w_X11_count_1 (h0 h1 h2 h3 h4 h5 h6 h7 h8 h9 h10 : Nat) (_ : Unit) : va_W := [(h0, .inr (11, [.int 0, .ref h1, .ref h2, .ref h3, .int 0, .ref h4, .int 0, .ref h5, .ref h6, .ref h7, .ref h8, .int 0, .ref h9, .int (-1), .ref h10]))]
abbrev t_X11_count_1 (_ : Unit) : List (ClassId × FieldType) := []
abbrev Q_X11_count_1 (D : va_G) (h0 h1 h2 h3 h4 h5 h6 h7 h8 h9 h10 : Nat) (A : Nat → Prop) : Array Value → State → Outcome → State → Prop := QW (.returned (some (.int 0))) D (w_X11_count_1 h0 h1 h2 h3 h4 h5 h6 h7 h8 h9 h10) t_X11_count_1 A
set_option maxHeartbeats 4000000 in
set_option maxRecDepth 100000 in
theorem c_X11_count_1 (l : Launch) (D : va_G) (h0 h1 h2 h3 h4 h5 h6 h7 h8 h9 h10 : Nat) (sz : Nat) : Met l yX11_count (.code yX11_count cX11_count 2 (some .int) :: wT) ({ frames := 0, cells := 0, slots := 0, locals := 0 } : Room) (SP D [.ref h0, .int 0] [(h0, .inr (11, [.int 0, .ref h1, .ref h2, .ref h3, .int 0, .ref h4, .int 0, .ref h5, .ref h6, .ref h7, .ref h8, .int 0, .ref h9, .int (-1), .ref h10]))] [] sz) (Q_X11_count_1 D h0 h1 h2 h3 h4 h5 h6 h7 h8 h9 h10 (va_A [(h0, .inr (11, [.int 0, .ref h1, .ref h2, .ref h3, .int 0, .ref h4, .int 0, .ref h5, .ref h6, .ref h7, .ref h8, .int 0, .ref h9, .int (-1), .ref h10]))] sz)) 0 0 (va_A [(h0, .inr (11, [.int 0, .ref h1, .ref h2, .ref h3, .int 0, .ref h4, .int 0, .ref h5, .ref h6, .ref h7, .ref h8, .int 0, .ref h9, .int (-1), .ref h10]))] sz) := by
  refine SP.start (Qf := Q_X11_count_1 D h0 h1 h2 h3 h4 h5 h6 h7 h8 h9 h10) (by decide) (Nat.le_of_ble_eq_true rfl) ?_
  intro p e s m below meth c ls A hx hb hr hml hown hts hlocks hname hA hP hK hD hE hl hS
  have hown : s.vm.findClass RX11 = some m.cls := hown
  have hl : lv_has ls 2 [(0, .ref h0), (1, .int 0)] := hl
  refine lv_iload_n hx hb dX11_count_0 rfl (lv_at hl 1 rfl) ?_
  refine lv_tableIn (off := 55) (tgt := 56) hx hb dX11_count_1 (by decide) (by decide) (by decide) (by decide) ?_
  refine lv_aload_n hx hb dX11_count_56 rfl (lv_at hl 0 rfl) ?_
  refine va_get (D := D) (ci := 11) (v := .int 0) (C := RX11) (T := TX11) (N := 15) hx hb hts iX11 hown hK hP 0 rfl rfl 0 (by decide) (hts _ kw17) (fun _ h9 => h9) rfl dX11_count_57 ?_
  exact q_iret () hx hb hr hlocks hP hK hD hS [0] [] rfl rfl rfl dX11_count_60 (Nat.le_of_ble_eq_true rfl) (Nat.le_of_ble_eq_true rfl)
abbrev w_X11_count_2 (h0 h1 h2 h3 h4 h5 h6 h7 h8 h9 h10 : Nat) (_ : Unit) : va_W := [(h0, .inr (11, [.int 0, .ref h1, .ref h2, .ref h3, .int 0, .ref h4, .int 0, .ref h5, .ref h6, .ref h7, .ref h8, .int 0, .ref h9, .int (-1), .ref h10]))]
abbrev t_X11_count_2 (_ : Unit) : List (ClassId × FieldType) := []
abbrev Q_X11_count_2 (D : va_G) (h0 h1 h2 h3 h4 h5 h6 h7 h8 h9 h10 : Nat) (A : Nat → Prop) : Array Value → State → Outcome → State → Prop := QW (.returned (some (.int 0))) D (w_X11_count_2 h0 h1 h2 h3 h4 h5 h6 h7 h8 h9 h10) t_X11_count_2 A
set_option maxHeartbeats 4000000 in
set_option maxRecDepth 100000 in
theorem c_X11_count_2 (l : Launch) (D : va_G) (h0 h1 h2 h3 h4 h5 h6 h7 h8 h9 h10 : Nat) (sz : Nat) : Met l yX11_count (.code yX11_count cX11_count 2 (some .int) :: wT) ({ frames := 0, cells := 0, slots := 0, locals := 0 } : Room) (SP D [.ref h0, .int 1] [(h0, .inr (11, [.int 0, .ref h1, .ref h2, .ref h3, .int 0, .ref h4, .int 0, .ref h5, .ref h6, .ref h7, .ref h8, .int 0, .ref h9, .int (-1), .ref h10]))] [] sz) (Q_X11_count_2 D h0 h1 h2 h3 h4 h5 h6 h7 h8 h9 h10 (va_A [(h0, .inr (11, [.int 0, .ref h1, .ref h2, .ref h3, .int 0, .ref h4, .int 0, .ref h5, .ref h6, .ref h7, .ref h8, .int 0, .ref h9, .int (-1), .ref h10]))] sz)) 0 0 (va_A [(h0, .inr (11, [.int 0, .ref h1, .ref h2, .ref h3, .int 0, .ref h4, .int 0, .ref h5, .ref h6, .ref h7, .ref h8, .int 0, .ref h9, .int (-1), .ref h10]))] sz) := by
  refine SP.start (Qf := Q_X11_count_2 D h0 h1 h2 h3 h4 h5 h6 h7 h8 h9 h10) (by decide) (Nat.le_of_ble_eq_true rfl) ?_
  intro p e s m below meth c ls A hx hb hr hml hown hts hlocks hname hA hP hK hD hE hl hS
  have hown : s.vm.findClass RX11 = some m.cls := hown
  have hl : lv_has ls 2 [(0, .ref h0), (1, .int 1)] := hl
  refine lv_iload_n hx hb dX11_count_0 rfl (lv_at hl 1 rfl) ?_
  refine lv_tableIn (off := 60) (tgt := 61) hx hb dX11_count_1 (by decide) (by decide) (by decide) (by decide) ?_
  refine lv_aload_n hx hb dX11_count_61 rfl (lv_at hl 0 rfl) ?_
  refine va_get (D := D) (ci := 11) (v := .int 0) (C := RX11) (T := TX11) (N := 15) hx hb hts iX11 hown hK hP 0 rfl rfl 4 (by decide) (hts _ kw57) (fun _ h9 => h9) rfl dX11_count_62 ?_
  exact q_iret () hx hb hr hlocks hP hK hD hS [0] [] rfl rfl rfl dX11_count_65 (Nat.le_of_ble_eq_true rfl) (Nat.le_of_ble_eq_true rfl)
abbrev w_X11_count_3 (h0 h1 h2 h3 h4 h5 h6 h7 h8 h9 h10 h11 h12 h13 h14 : Nat) (_ : Unit) : va_W := [(h0, .inr (11, [.int 0, .ref h2, .ref h1, .ref h3, .int 0, .ref h4, .int 0, .ref h5, .ref h6, .ref h7, .ref h8, .int 0, .ref h9, .int (-1), .ref h10])), (h1, .inr (9, [.ref h11, .ref h12, .ref h13, .ref h14, .int 0, .int 0, .int 0, .int 0, .int 0, .int 0, .int 0, .int 0]))]
abbrev t_X11_count_3 (_ : Unit) : List (ClassId × FieldType) := []
abbrev Q_X11_count_3 (D : va_G) (h0 h1 h2 h3 h4 h5 h6 h7 h8 h9 h10 h11 h12 h13 h14 : Nat) (A : Nat → Prop) : Array Value → State → Outcome → State → Prop := QW (.returned (some (.int 0))) D (w_X11_count_3 h0 h1 h2 h3 h4 h5 h6 h7 h8 h9 h10 h11 h12 h13 h14) t_X11_count_3 A
set_option maxHeartbeats 4000000 in
set_option maxRecDepth 100000 in
theorem c_X11_count_3 (l : Launch) (D : va_G) (h0 h1 h2 h3 h4 h5 h6 h7 h8 h9 h10 h11 h12 h13 h14 : Nat) (sz : Nat) : Met l yX11_count (.code yX11_count cX11_count 2 (some .int) :: wT) ({ frames := 0, cells := 0, slots := 0, locals := 0 } : Room) (SP D [.ref h0, .int 2] [(h0, .inr (11, [.int 0, .ref h2, .ref h1, .ref h3, .int 0, .ref h4, .int 0, .ref h5, .ref h6, .ref h7, .ref h8, .int 0, .ref h9, .int (-1), .ref h10])), (h1, .inr (9, [.ref h11, .ref h12, .ref h13, .ref h14, .int 0, .int 0, .int 0, .int 0, .int 0, .int 0, .int 0, .int 0]))] [] sz) (Q_X11_count_3 D h0 h1 h2 h3 h4 h5 h6 h7 h8 h9 h10 h11 h12 h13 h14 (va_A [(h0, .inr (11, [.int 0, .ref h2, .ref h1, .ref h3, .int 0, .ref h4, .int 0, .ref h5, .ref h6, .ref h7, .ref h8, .int 0, .ref h9, .int (-1), .ref h10])), (h1, .inr (9, [.ref h11, .ref h12, .ref h13, .ref h14, .int 0, .int 0, .int 0, .int 0, .int 0, .int 0, .int 0, .int 0]))] sz)) 0 0 (va_A [(h0, .inr (11, [.int 0, .ref h2, .ref h1, .ref h3, .int 0, .ref h4, .int 0, .ref h5, .ref h6, .ref h7, .ref h8, .int 0, .ref h9, .int (-1), .ref h10])), (h1, .inr (9, [.ref h11, .ref h12, .ref h13, .ref h14, .int 0, .int 0, .int 0, .int 0, .int 0, .int 0, .int 0, .int 0]))] sz) := by
  refine SP.start (Qf := Q_X11_count_3 D h0 h1 h2 h3 h4 h5 h6 h7 h8 h9 h10 h11 h12 h13 h14) (by decide) (Nat.le_of_ble_eq_true rfl) ?_
  intro p e s m below meth c ls A hx hb hr hml hown hts hlocks hname hA hP hK hD hE hl hS
  have hown : s.vm.findClass RX11 = some m.cls := hown
  have hl : lv_has ls 2 [(0, .ref h0), (1, .int 2)] := hl
  refine lv_iload_n hx hb dX11_count_0 rfl (lv_at hl 1 rfl) ?_
  refine lv_tableIn (off := 65) (tgt := 66) hx hb dX11_count_1 (by decide) (by decide) (by decide) (by decide) ?_
  refine lv_aload_n hx hb dX11_count_66 rfl (lv_at hl 0 rfl) ?_
  refine va_get (D := D) (ci := 11) (v := .ref h1) (C := RX11) (T := TX11) (N := 15) hx hb hts iX11 hown hK hP 0 rfl rfl 2 (by decide) (hts _ kw54) (fun _ h9 => h9) rfl dX11_count_67 ?_
  refine va_get (D := D) (ci := 9) (v := .int 0) (C := RX9) (T := TX9) (N := 12) hx hb hts iX9 hown hK hP 1 rfl rfl 7 (by decide) (hts _ kw413) (fun _ h9 => h9) rfl dX11_count_70 ?_
  exact q_iret () hx hb hr hlocks hP hK hD hS [0, 1] [] rfl rfl rfl dX11_count_73 (Nat.le_of_ble_eq_true rfl) (Nat.le_of_ble_eq_true rfl)
abbrev w_X11_count_4 (h0 h1 h2 h3 h4 h5 h6 h7 h8 h9 h10 h11 h12 h13 h14 : Nat) (_ : Unit) : va_W := [(h0, .inr (11, [.int 0, .ref h1, .ref h2, .ref h3, .int 0, .ref h4, .int 0, .ref h5, .ref h6, .ref h7, .ref h8, .int 0, .ref h9, .int (-1), .ref h10])), (h1, .inr (8, [.ref h11, .ref h12, .ref h13, .ref h14, .int 0, .int 0]))]
abbrev t_X11_count_4 (_ : Unit) : List (ClassId × FieldType) := []
abbrev Q_X11_count_4 (D : va_G) (h0 h1 h2 h3 h4 h5 h6 h7 h8 h9 h10 h11 h12 h13 h14 : Nat) (A : Nat → Prop) : Array Value → State → Outcome → State → Prop := QW (.returned (some (.int 0))) D (w_X11_count_4 h0 h1 h2 h3 h4 h5 h6 h7 h8 h9 h10 h11 h12 h13 h14) t_X11_count_4 A
set_option maxHeartbeats 4000000 in
set_option maxRecDepth 100000 in
theorem c_X11_count_4 (l : Launch) (D : va_G) (h0 h1 h2 h3 h4 h5 h6 h7 h8 h9 h10 h11 h12 h13 h14 : Nat) (sz : Nat) : Met l yX11_count (.code yX11_count cX11_count 2 (some .int) :: wT) ({ frames := 0, cells := 0, slots := 0, locals := 0 } : Room) (SP D [.ref h0, .int 3] [(h0, .inr (11, [.int 0, .ref h1, .ref h2, .ref h3, .int 0, .ref h4, .int 0, .ref h5, .ref h6, .ref h7, .ref h8, .int 0, .ref h9, .int (-1), .ref h10])), (h1, .inr (8, [.ref h11, .ref h12, .ref h13, .ref h14, .int 0, .int 0]))] [] sz) (Q_X11_count_4 D h0 h1 h2 h3 h4 h5 h6 h7 h8 h9 h10 h11 h12 h13 h14 (va_A [(h0, .inr (11, [.int 0, .ref h1, .ref h2, .ref h3, .int 0, .ref h4, .int 0, .ref h5, .ref h6, .ref h7, .ref h8, .int 0, .ref h9, .int (-1), .ref h10])), (h1, .inr (8, [.ref h11, .ref h12, .ref h13, .ref h14, .int 0, .int 0]))] sz)) 0 0 (va_A [(h0, .inr (11, [.int 0, .ref h1, .ref h2, .ref h3, .int 0, .ref h4, .int 0, .ref h5, .ref h6, .ref h7, .ref h8, .int 0, .ref h9, .int (-1), .ref h10])), (h1, .inr (8, [.ref h11, .ref h12, .ref h13, .ref h14, .int 0, .int 0]))] sz) := by
  refine SP.start (Qf := Q_X11_count_4 D h0 h1 h2 h3 h4 h5 h6 h7 h8 h9 h10 h11 h12 h13 h14) (by decide) (Nat.le_of_ble_eq_true rfl) ?_
  intro p e s m below meth c ls A hx hb hr hml hown hts hlocks hname hA hP hK hD hE hl hS
  have hown : s.vm.findClass RX11 = some m.cls := hown
  have hl : lv_has ls 2 [(0, .ref h0), (1, .int 3)] := hl
  refine lv_iload_n hx hb dX11_count_0 rfl (lv_at hl 1 rfl) ?_
  refine lv_tableIn (off := 73) (tgt := 74) hx hb dX11_count_1 (by decide) (by decide) (by decide) (by decide) ?_
  refine lv_aload_n hx hb dX11_count_74 rfl (lv_at hl 0 rfl) ?_
  refine va_get (D := D) (ci := 11) (v := .ref h1) (C := RX11) (T := TX11) (N := 15) hx hb hts iX11 hown hK hP 0 rfl rfl 1 (by decide) (hts _ kw34) (fun _ h9 => h9) rfl dX11_count_75 ?_
  refine va_get (D := D) (ci := 8) (v := .int 0) (C := RX8) (T := TX8) (N := 6) hx hb hts iX8 hown hK hP 1 rfl rfl 4 (by decide) (hts _ kw414) (fun _ h9 => h9) rfl dX11_count_78 ?_
  exact q_iret () hx hb hr hlocks hP hK hD hS [0, 1] [] rfl rfl rfl dX11_count_81 (Nat.le_of_ble_eq_true rfl) (Nat.le_of_ble_eq_true rfl)
abbrev w_X11_count_5 (h0 h1 h2 h3 h4 h5 h6 h7 h8 h9 h10 : Nat) (_ : Unit) : va_W := [(h0, .inr (11, [.int 0, .ref h1, .ref h2, .ref h3, .int 0, .ref h4, .int 0, .ref h5, .ref h6, .ref h7, .ref h8, .int 0, .ref h9, .int (-1), .ref h10]))]
abbrev t_X11_count_5 (_ : Unit) : List (ClassId × FieldType) := []
abbrev Q_X11_count_5 (D : va_G) (h0 h1 h2 h3 h4 h5 h6 h7 h8 h9 h10 : Nat) (A : Nat → Prop) : Array Value → State → Outcome → State → Prop := QW (.returned (some (.int 0))) D (w_X11_count_5 h0 h1 h2 h3 h4 h5 h6 h7 h8 h9 h10) t_X11_count_5 A
set_option maxHeartbeats 4000000 in
set_option maxRecDepth 100000 in
theorem c_X11_count_5 (l : Launch) (D : va_G) (h0 h1 h2 h3 h4 h5 h6 h7 h8 h9 h10 : Nat) (sz : Nat) : Met l yX11_count (.code yX11_count cX11_count 2 (some .int) :: wT) ({ frames := 0, cells := 0, slots := 0, locals := 0 } : Room) (SP D [.ref h0, .int 4] [(h0, .inr (11, [.int 0, .ref h1, .ref h2, .ref h3, .int 0, .ref h4, .int 0, .ref h5, .ref h6, .ref h7, .ref h8, .int 0, .ref h9, .int (-1), .ref h10]))] [] sz) (Q_X11_count_5 D h0 h1 h2 h3 h4 h5 h6 h7 h8 h9 h10 (va_A [(h0, .inr (11, [.int 0, .ref h1, .ref h2, .ref h3, .int 0, .ref h4, .int 0, .ref h5, .ref h6, .ref h7, .ref h8, .int 0, .ref h9, .int (-1), .ref h10]))] sz)) 0 0 (va_A [(h0, .inr (11, [.int 0, .ref h1, .ref h2, .ref h3, .int 0, .ref h4, .int 0, .ref h5, .ref h6, .ref h7, .ref h8, .int 0, .ref h9, .int (-1), .ref h10]))] sz) := by
  refine SP.start (Qf := Q_X11_count_5 D h0 h1 h2 h3 h4 h5 h6 h7 h8 h9 h10) (by decide) (Nat.le_of_ble_eq_true rfl) ?_
  intro p e s m below meth c ls A hx hb hr hml hown hts hlocks hname hA hP hK hD hE hl hS
  have hown : s.vm.findClass RX11 = some m.cls := hown
  have hl : lv_has ls 2 [(0, .ref h0), (1, .int 4)] := hl
  refine lv_iload_n hx hb dX11_count_0 rfl (lv_at hl 1 rfl) ?_
  refine lv_tableIn (off := 81) (tgt := 82) hx hb dX11_count_1 (by decide) (by decide) (by decide) (by decide) ?_
  refine lv_aload_n hx hb dX11_count_82 rfl (lv_at hl 0 rfl) ?_
  refine va_get (D := D) (ci := 11) (v := .int 0) (C := RX11) (T := TX11) (N := 15) hx hb hts iX11 hown hK hP 0 rfl rfl 6 (by decide) (hts _ kw60) (fun _ h9 => h9) rfl dX11_count_83 ?_
  exact q_iret () hx hb hr hlocks hP hK hD hS [0] [] rfl rfl rfl dX11_count_86 (Nat.le_of_ble_eq_true rfl) (Nat.le_of_ble_eq_true rfl)
abbrev w_X11_count_6 (h0 h1 h2 h3 h4 h5 h6 h7 h8 h9 h10 h11 h12 h13 h14 h15 h16 h17 h18 h19 : Nat) (_ : Unit) : va_W := [(h0, .inr (11, [.int 0, .ref h2, .ref h3, .ref h4, .int 0, .ref h5, .int 0, .ref h1, .ref h6, .ref h7, .ref h8, .int 0, .ref h9, .int (-1), .ref h10])), (h1, .inr (7, [.ref h11, .ref h12, .ref h13, .ref h14, .ref h15, .ref h16, .ref h17, .ref h18, .ref h19, .int 0, .int 0, .int 0, .int 0]))]
abbrev t_X11_count_6 (_ : Unit) : List (ClassId × FieldType) := []
abbrev Q_X11_count_6 (D : va_G) (h0 h1 h2 h3 h4 h5 h6 h7 h8 h9 h10 h11 h12 h13 h14 h15 h16 h17 h18 h19 : Nat) (A : Nat → Prop) : Array Value → State → Outcome → State → Prop := QW (.returned (some (.int 0))) D (w_X11_count_6 h0 h1 h2 h3 h4 h5 h6 h7 h8 h9 h10 h11 h12 h13 h14 h15 h16 h17 h18 h19) t_X11_count_6 A
set_option maxHeartbeats 4000000 in
set_option maxRecDepth 100000 in
theorem c_X11_count_6 (l : Launch) (D : va_G) (h0 h1 h2 h3 h4 h5 h6 h7 h8 h9 h10 h11 h12 h13 h14 h15 h16 h17 h18 h19 : Nat) (sz : Nat) : Met l yX11_count (.code yX11_count cX11_count 2 (some .int) :: wT) ({ frames := 0, cells := 0, slots := 0, locals := 0 } : Room) (SP D [.ref h0, .int 5] [(h0, .inr (11, [.int 0, .ref h2, .ref h3, .ref h4, .int 0, .ref h5, .int 0, .ref h1, .ref h6, .ref h7, .ref h8, .int 0, .ref h9, .int (-1), .ref h10])), (h1, .inr (7, [.ref h11, .ref h12, .ref h13, .ref h14, .ref h15, .ref h16, .ref h17, .ref h18, .ref h19, .int 0, .int 0, .int 0, .int 0]))] [] sz) (Q_X11_count_6 D h0 h1 h2 h3 h4 h5 h6 h7 h8 h9 h10 h11 h12 h13 h14 h15 h16 h17 h18 h19 (va_A [(h0, .inr (11, [.int 0, .ref h2, .ref h3, .ref h4, .int 0, .ref h5, .int 0, .ref h1, .ref h6, .ref h7, .ref h8, .int 0, .ref h9, .int (-1), .ref h10])), (h1, .inr (7, [.ref h11, .ref h12, .ref h13, .ref h14, .ref h15, .ref h16, .ref h17, .ref h18, .ref h19, .int 0, .int 0, .int 0, .int 0]))] sz)) 0 0 (va_A [(h0, .inr (11, [.int 0, .ref h2, .ref h3, .ref h4, .int 0, .ref h5, .int 0, .ref h1, .ref h6, .ref h7, .ref h8, .int 0, .ref h9, .int (-1), .ref h10])), (h1, .inr (7, [.ref h11, .ref h12, .ref h13, .ref h14, .ref h15, .ref h16, .ref h17, .ref h18, .ref h19, .int 0, .int 0, .int 0, .int 0]))] sz) := by
  refine SP.start (Qf := Q_X11_count_6 D h0 h1 h2 h3 h4 h5 h6 h7 h8 h9 h10 h11 h12 h13 h14 h15 h16 h17 h18 h19) (by decide) (Nat.le_of_ble_eq_true rfl) ?_
  intro p e s m below meth c ls A hx hb hr hml hown hts hlocks hname hA hP hK hD hE hl hS
  have hown : s.vm.findClass RX11 = some m.cls := hown
  have hl : lv_has ls 2 [(0, .ref h0), (1, .int 5)] := hl
  refine lv_iload_n hx hb dX11_count_0 rfl (lv_at hl 1 rfl) ?_
  refine lv_tableIn (off := 86) (tgt := 87) hx hb dX11_count_1 (by decide) (by decide) (by decide) (by decide) ?_
  refine lv_aload_n hx hb dX11_count_87 rfl (lv_at hl 0 rfl) ?_
  refine va_get (D := D) (ci := 11) (v := .ref h1) (C := RX11) (T := TX11) (N := 15) hx hb hts iX11 hown hK hP 0 rfl rfl 7 (by decide) (hts _ kw81) (fun _ h9 => h9) rfl dX11_count_88 ?_
  refine va_get (D := D) (ci := 7) (v := .int 0) (C := RX7) (T := TX7) (N := 13) hx hb hts iX7 hown hK hP 1 rfl rfl 11 (by decide) (hts _ kw415) (fun _ h9 => h9) rfl dX11_count_91 ?_
  exact q_iret () hx hb hr hlocks hP hK hD hS [0, 1] [] rfl rfl rfl dX11_count_94 (Nat.le_of_ble_eq_true rfl) (Nat.le_of_ble_eq_true rfl)
abbrev w_X11_count_7 (h0 h1 h2 h3 h4 h5 h6 h7 h8 h9 h10 h11 h12 : Nat) (_ : Unit) : va_W := [(h0, .inr (11, [.int 0, .ref h2, .ref h3, .ref h4, .int 0, .ref h5, .int 0, .ref h6, .ref h1, .ref h7, .ref h8, .int 0, .ref h9, .int (-1), .ref h10])), (h1, .inr (3, [.ref h11, .ref h12, .int 0]))]
abbrev t_X11_count_7 (_ : Unit) : List (ClassId × FieldType) := []
abbrev Q_X11_count_7 (D : va_G) (h0 h1 h2 h3 h4 h5 h6 h7 h8 h9 h10 h11 h12 : Nat) (A : Nat → Prop) : Array Value → State → Outcome → State → Prop := QW (.returned (some (.int 0))) D (w_X11_count_7 h0 h1 h2 h3 h4 h5 h6 h7 h8 h9 h10 h11 h12) t_X11_count_7 A
set_option maxHeartbeats 4000000 in
set_option maxRecDepth 100000 in
theorem c_X11_count_7 (l : Launch) (D : va_G) (h0 h1 h2 h3 h4 h5 h6 h7 h8 h9 h10 h11 h12 : Nat) (sz : Nat) : Met l yX11_count (.code yX11_count cX11_count 2 (some .int) :: wT) ({ frames := 0, cells := 0, slots := 0, locals := 0 } : Room) (SP D [.ref h0, .int 6] [(h0, .inr (11, [.int 0, .ref h2, .ref h3, .ref h4, .int 0, .ref h5, .int 0, .ref h6, .ref h1, .ref h7, .ref h8, .int 0, .ref h9, .int (-1), .ref h10])), (h1, .inr (3, [.ref h11, .ref h12, .int 0]))] [] sz) (Q_X11_count_7 D h0 h1 h2 h3 h4 h5 h6 h7 h8 h9 h10 h11 h12 (va_A [(h0, .inr (11, [.int 0, .ref h2, .ref h3, .ref h4, .int 0, .ref h5, .int 0, .ref h6, .ref h1, .ref h7, .ref h8, .int 0, .ref h9, .int (-1), .ref h10])), (h1, .inr (3, [.ref h11, .ref h12, .int 0]))] sz)) 0 0 (va_A [(h0, .inr (11, [.int 0, .ref h2, .ref h3, .ref h4, .int 0, .ref h5, .int 0, .ref h6, .ref h1, .ref h7, .ref h8, .int 0, .ref h9, .int (-1), .ref h10])), (h1, .inr (3, [.ref h11, .ref h12, .int 0]))] sz) := by
  refine SP.start (Qf := Q_X11_count_7 D h0 h1 h2 h3 h4 h5 h6 h7 h8 h9 h10 h11 h12) (by decide) (Nat.le_of_ble_eq_true rfl) ?_
  intro p e s m below meth c ls A hx hb hr hml hown hts hlocks hname hA hP hK hD hE hl hS
  have hown : s.vm.findClass RX11 = some m.cls := hown
  have hl : lv_has ls 2 [(0, .ref h0), (1, .int 6)] := hl
  refine lv_iload_n hx hb dX11_count_0 rfl (lv_at hl 1 rfl) ?_
  refine lv_tableIn (off := 94) (tgt := 95) hx hb dX11_count_1 (by decide) (by decide) (by decide) (by decide) ?_
  refine lv_aload_n hx hb dX11_count_95 rfl (lv_at hl 0 rfl) ?_
  refine va_get (D := D) (ci := 11) (v := .ref h1) (C := RX11) (T := TX11) (N := 15) hx hb hts iX11 hown hK hP 0 rfl rfl 8 (by decide) (hts _ kw92) (fun _ h9 => h9) rfl dX11_count_96 ?_
  refine va_get (D := D) (ci := 3) (v := .int 0) (C := RX3) (T := TX3) (N := 3) hx hb hts iX3 hown hK hP 1 rfl rfl 2 (by decide) (hts _ kw412) (fun _ h9 => h9) rfl dX11_count_99 ?_
  exact q_iret () hx hb hr hlocks hP hK hD hS [0, 1] [] rfl rfl rfl dX11_count_102 (Nat.le_of_ble_eq_true rfl) (Nat.le_of_ble_eq_true rfl)
