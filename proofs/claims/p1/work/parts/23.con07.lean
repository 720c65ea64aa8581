abbrev w_X11_countFlying_1 (h0 h1 h2 h3 h4 h5 h6 h7 h8 h9 h10 : Nat) (_ : Unit) : va_W := [(h0, .inr (11, [.int 0, .ref h1, .ref h2, .ref h3, .int 0, .ref h4, .int 0, .ref h5, .ref h6, .ref h7, .ref h8, .int 0, .ref h9, .int (-1), .ref h10]))]
abbrev t_X11_countFlying_1 (_ : Unit) : List (ClassId × FieldType) := []
abbrev Q_X11_countFlying_1 (D : va_G) (h0 h1 h2 h3 h4 h5 h6 h7 h8 h9 h10 : Nat) (A : Nat → Prop) : Array Value → State → Outcome → State → Prop := QW (.returned (some (.int 0))) D (w_X11_countFlying_1 h0 h1 h2 h3 h4 h5 h6 h7 h8 h9 h10) t_X11_countFlying_1 A
set_option maxHeartbeats 4000000 in
set_option maxRecDepth 100000 in
theorem c_X11_countFlying_1 (l : Launch) (D : va_G) (h0 h1 h2 h3 h4 h5 h6 h7 h8 h9 h10 : Nat) (sz : Nat) : Met l yX11_countFlying (.code yX11_countFlying cX11_countFlying 3 (some .int) :: wT) ({ frames := 0, cells := 0, slots := 0, locals := 0 } : Room) (SP D [.ref h0] [(h0, .inr (11, [.int 0, .ref h1, .ref h2, .ref h3, .int 0, .ref h4, .int 0, .ref h5, .ref h6, .ref h7, .ref h8, .int 0, .ref h9, .int (-1), .ref h10]))] [] sz) (Q_X11_countFlying_1 D h0 h1 h2 h3 h4 h5 h6 h7 h8 h9 h10 (va_A [(h0, .inr (11, [.int 0, .ref h1, .ref h2, .ref h3, .int 0, .ref h4, .int 0, .ref h5, .ref h6, .ref h7, .ref h8, .int 0, .ref h9, .int (-1), .ref h10]))] sz)) 0 0 (va_A [(h0, .inr (11, [.int 0, .ref h1, .ref h2, .ref h3, .int 0, .ref h4, .int 0, .ref h5, .ref h6, .ref h7, .ref h8, .int 0, .ref h9, .int (-1), .ref h10]))] sz) := by
  refine SP.start (Qf := Q_X11_countFlying_1 D h0 h1 h2 h3 h4 h5 h6 h7 h8 h9 h10) (by decide) (Nat.le_of_ble_eq_true rfl) ?_
  intro p e s m below meth c ls A hx hb hr hml hown hts hlocks hname hA hP hK hD hE hl hS
  have hown : s.vm.findClass RX11 = some m.cls := hown
  have hl : lv_has ls 3 [(0, .ref h0)] := hl
  refine lv_iconst (v := 0) hx hb dX11_countFlying_0 (by decide) ?_
  refine lv_istore_n (lv' := [(1, .int 0), (0, .ref h0)]) hx hb dX11_countFlying_1 rfl hl (by decide) rfl (fun ls hl => ?_)
  refine lv_iconst (v := 0) hx hb dX11_countFlying_2 (by decide) ?_
  refine lv_istore_n (lv' := [(2, .int 0), (1, .int 0), (0, .ref h0)]) hx hb dX11_countFlying_3 rfl hl (by decide) rfl (fun ls hl => ?_)
  refine lv_iload_n hx hb dX11_countFlying_4 rfl (lv_at hl 0 rfl) ?_
  refine lv_aload_n hx hb dX11_countFlying_5 rfl (lv_at hl 2 rfl) ?_
  refine va_get (D := D) (ci := 11) (v := .int 0) (C := RX11) (T := TX11) (N := 15) hx hb hts iX11 hown hK hP 0 rfl rfl 4 (by decide) (hts _ kw57) (fun _ h9 => h9) rfl dX11_countFlying_6 ?_
  refine lv_icmp_ge (tgt := 37) hx hb dX11_countFlying_9 (by decide) (fun _ => ?_) (fun c9 => absurd (by decide +kernel) c9)
  refine lv_iload_n hx hb dX11_countFlying_37 rfl (lv_at hl 1 rfl) ?_
  exact q_iret () hx hb hr hlocks hP hK hD hS [0] [] rfl rfl rfl dX11_countFlying_38 (Nat.le_of_ble_eq_true rfl) (Nat.le_of_ble_eq_true rfl)
abbrev w_X11_count_8 (h0 h1 h2 h3 h4 h5 h6 h7 h8 h9 h10 : Nat) (_ : Unit) : va_W := [(h0, .inr (11, [.int 0, .ref h1, .ref h2, .ref h3, .int 0, .ref h4, .int 0, .ref h5, .ref h6, .ref h7, .ref h8, .int 0, .ref h9, .int (-1), .ref h10]))]
abbrev t_X11_count_8 (_ : Unit) : List (ClassId × FieldType) := []
abbrev Q_X11_count_8 (D : va_G) (h0 h1 h2 h3 h4 h5 h6 h7 h8 h9 h10 : Nat) (A : Nat → Prop) : Array Value → State → Outcome → State → Prop := QW (.returned (some (.int 0))) D (w_X11_count_8 h0 h1 h2 h3 h4 h5 h6 h7 h8 h9 h10) t_X11_count_8 A
set_option maxHeartbeats 4000000 in
set_option maxRecDepth 100000 in
theorem c_X11_count_8 (l : Launch) (D : va_G) (h0 h1 h2 h3 h4 h5 h6 h7 h8 h9 h10 : Nat) (sz : Nat) : Met l yX11_count (.code yX11_count cX11_count 2 (some .int) :: wT) ({ frames := 1, cells := 0, slots := 0, locals := 22 } : Room) (SP D [.ref h0, .int 7] [(h0, .inr (11, [.int 0, .ref h1, .ref h2, .ref h3, .int 0, .ref h4, .int 0, .ref h5, .ref h6, .ref h7, .ref h8, .int 0, .ref h9, .int (-1), .ref h10]))] [] sz) (Q_X11_count_8 D h0 h1 h2 h3 h4 h5 h6 h7 h8 h9 h10 (va_A [(h0, .inr (11, [.int 0, .ref h1, .ref h2, .ref h3, .int 0, .ref h4, .int 0, .ref h5, .ref h6, .ref h7, .ref h8, .int 0, .ref h9, .int (-1), .ref h10]))] sz)) 0 0 (va_A [(h0, .inr (11, [.int 0, .ref h1, .ref h2, .ref h3, .int 0, .ref h4, .int 0, .ref h5, .ref h6, .ref h7, .ref h8, .int 0, .ref h9, .int (-1), .ref h10]))] sz) := by
  refine SP.start (Qf := Q_X11_count_8 D h0 h1 h2 h3 h4 h5 h6 h7 h8 h9 h10) (by decide) (Nat.le_of_ble_eq_true rfl) ?_
  intro p e s m below meth c ls A hx hb hr hml hown hts hlocks hname hA hP hK hD hE hl hS
  have hown : s.vm.findClass RX11 = some m.cls := hown
  have hl : lv_has ls 2 [(0, .ref h0), (1, .int 7)] := hl
  refine lv_iload_n hx hb dX11_count_0 rfl (lv_at hl 1 rfl) ?_
  refine lv_tableIn (off := 102) (tgt := 103) hx hb dX11_count_1 (by decide) (by decide) (by decide) (by decide) ?_
  refine lv_aload_n hx hb dX11_count_103 rfl (lv_at hl 0 rfl) ?_
  refine q_run (D := D) (w1 := w_X11_countFlying_1 h0 h1 h2 h3 h4 h5 h6 h7 h8 h9 h10) (t1 := t_X11_countFlying_1) (o := (some (.int 0))) (ws := [(h0, .inr (11, [.int 0, .ref h1, .ref h2, .ref h3, .int 0, .ref h4, .int 0, .ref h5, .ref h6, .ref h7, .ref h8, .int 0, .ref h9, .int (-1), .ref h10]))]) (wc := [(h0, .inr (11, [.int 0, .ref h1, .ref h2, .ref h3, .int 0, .ref h4, .int 0, .ref h5, .ref h6, .ref h7, .ref h8, .int 0, .ref h9, .int (-1), .ref h10]))]) (wr := []) (va_runV (C := RX11) (b := h0) (As := []) (rest := []) ⟨hx, hb, hml, hown, hts⟩ (c_X11_countFlying_1 l D h0 h1 h2 h3 h4 h5 h6 h7 h8 h9 h10 s.heap.size) (cwV 0 hts (gTV kw416 kw417 kw418 kw419 kw3) rfl rfl rfl hd44 ⟨(Nat.le_of_ble_eq_true rfl), (Nat.le_of_ble_eq_true rfl)⟩) ⟨SP.blind, q_recv (ws := [(h0, .inr (11, [.int 0, .ref h1, .ref h2, .ref h3, .int 0, .ref h4, .int 0, .ref h5, .ref h6, .ref h7, .ref h8, .int 0, .ref h9, .int (-1), .ref h10]))]) (wc := []) (r := (RX11, TX11, 15)) (ci := 11) (i := 0) hP hK rfl rfl, (SP.pre hP hK hD hE [0] [] rfl rfl rfl).2⟩ rfl rfl hl.1 rfl (lv_room (Nat.le_of_ble_eq_true rfl)) dX11_count_104 ⟨(Nat.le_of_ble_eq_true rfl), (Nat.le_of_ble_eq_true rfl)⟩) hP hK hD hS hA [0] [] rfl rfl rfl (by decide) (fun u H locs hP hK hD hS => ?_)
  refine W.eq (g2 := F0 m 107 ls [.int 0]) rfl ?_
  refine W.cs (cells' := 0) (slots' := 0) rfl rfl ?_
  have hP : va_P D vwCl [(h0, .inr (11, [.int 0, .ref h1, .ref h2, .ref h3, .int 0, .ref h4, .int 0, .ref h5, .ref h6, .ref h7, .ref h8, .int 0, .ref h9, .int (-1), .ref h10]))] H := hP
  have hD : va_D A [(h0, .inr (11, [.int 0, .ref h1, .ref h2, .ref h3, .int 0, .ref h4, .int 0, .ref h5, .ref h6, .ref h7, .ref h8, .int 0, .ref h9, .int (-1), .ref h10]))] := hD
  have hK : va_K D vwCl [] s := hK
  exact q_iret () hx hb hr hlocks hP hK hD hS [0] [] rfl rfl rfl dX11_count_107 (Nat.le_of_ble_eq_true rfl) (Nat.le_of_ble_eq_true rfl)
abbrev w_X11_count_9 (h0 h1 h2 h3 h4 h5 h6 h7 h8 h9 h10 : Nat) (_ : Unit) : va_W := [(h0, .inr (11, [.int 0, .ref h1, .ref h2, .ref h3, .int 0, .ref h4, .int 0, .ref h5, .ref h6, .ref h7, .ref h8, .int 0, .ref h9, .int (-1), .ref h10]))]
abbrev t_X11_count_9 (_ : Unit) : List (ClassId × FieldType) := []
abbrev Q_X11_count_9 (D : va_G) (h0 h1 h2 h3 h4 h5 h6 h7 h8 h9 h10 : Nat) (A : Nat → Prop) : Array Value → State → Outcome → State → Prop := QW (.returned (some (.int 0))) D (w_X11_count_9 h0 h1 h2 h3 h4 h5 h6 h7 h8 h9 h10) t_X11_count_9 A
set_option maxHeartbeats 4000000 in
set_option maxRecDepth 100000 in
theorem c_X11_count_9 (l : Launch) (D : va_G) (h0 h1 h2 h3 h4 h5 h6 h7 h8 h9 h10 : Nat) (sz : Nat) : Met l yX11_count (.code yX11_count cX11_count 2 (some .int) :: wT) ({ frames := 0, cells := 0, slots := 0, locals := 0 } : Room) (SP D [.ref h0, .int 8] [(h0, .inr (11, [.int 0, .ref h1, .ref h2, .ref h3, .int 0, .ref h4, .int 0, .ref h5, .ref h6, .ref h7, .ref h8, .int 0, .ref h9, .int (-1), .ref h10]))] [] sz) (Q_X11_count_9 D h0 h1 h2 h3 h4 h5 h6 h7 h8 h9 h10 (va_A [(h0, .inr (11, [.int 0, .ref h1, .ref h2, .ref h3, .int 0, .ref h4, .int 0, .ref h5, .ref h6, .ref h7, .ref h8, .int 0, .ref h9, .int (-1), .ref h10]))] sz)) 0 0 (va_A [(h0, .inr (11, [.int 0, .ref h1, .ref h2, .ref h3, .int 0, .ref h4, .int 0, .ref h5, .ref h6, .ref h7, .ref h8, .int 0, .ref h9, .int (-1), .ref h10]))] sz) := by
  refine SP.start (Qf := Q_X11_count_9 D h0 h1 h2 h3 h4 h5 h6 h7 h8 h9 h10) (by decide) (Nat.le_of_ble_eq_true rfl) ?_
  intro p e s m below meth c ls A hx hb hr hml hown hts hlocks hname hA hP hK hD hE hl hS
  have hown : s.vm.findClass RX11 = some m.cls := hown
  have hl : lv_has ls 2 [(0, .ref h0), (1, .int 8)] := hl
  refine lv_iload_n hx hb dX11_count_0 rfl (lv_at hl 1 rfl) ?_
  refine lv_tableIn (off := 107) (tgt := 108) hx hb dX11_count_1 (by decide) (by decide) (by decide) (by decide) ?_
  refine lv_aload_n hx hb dX11_count_108 rfl (lv_at hl 0 rfl) ?_
  refine va_get (D := D) (ci := 11) (v := .int 0) (C := RX11) (T := TX11) (N := 15) hx hb hts iX11 hown hK hP 0 rfl rfl 11 (by decide) (hts _ kw129) (fun _ h9 => h9) rfl dX11_count_109 ?_
  exact q_iret () hx hb hr hlocks hP hK hD hS [0] [] rfl rfl rfl dX11_count_112 (Nat.le_of_ble_eq_true rfl) (Nat.le_of_ble_eq_true rfl)
abbrev w_X11_count_10 (h0 h1 h2 h3 h4 h5 h6 h7 h8 h9 h10 h11 h12 h13 h14 : Nat) (_ : Unit) : va_W := [(h0, .inr (11, [.int 0, .ref h1, .ref h2, .ref h3, .int 0, .ref h4, .int 0, .ref h5, .ref h6, .ref h7, .ref h8, .int 0, .ref h9, .int (-1), .ref h10])), (h1, .inr (8, [.ref h11, .ref h12, .ref h13, .ref h14, .int 0, .int 0]))]
abbrev t_X11_count_10 (_ : Unit) : List (ClassId × FieldType) := []
abbrev Q_X11_count_10 (D : va_G) (h0 h1 h2 h3 h4 h5 h6 h7 h8 h9 h10 h11 h12 h13 h14 : Nat) (A : Nat → Prop) : Array Value → State → Outcome → State → Prop := QW (.returned (some (.int 0))) D (w_X11_count_10 h0 h1 h2 h3 h4 h5 h6 h7 h8 h9 h10 h11 h12 h13 h14) t_X11_count_10 A
set_option maxHeartbeats 4000000 in
set_option maxRecDepth 100000 in
theorem c_X11_count_10 (l : Launch) (D : va_G) (h0 h1 h2 h3 h4 h5 h6 h7 h8 h9 h10 h11 h12 h13 h14 : Nat) (sz : Nat) : Met l yX11_count (.code yX11_count cX11_count 2 (some .int) :: wT) ({ frames := 0, cells := 0, slots := 0, locals := 0 } : Room) (SP D [.ref h0, .int 9] [(h0, .inr (11, [.int 0, .ref h1, .ref h2, .ref h3, .int 0, .ref h4, .int 0, .ref h5, .ref h6, .ref h7, .ref h8, .int 0, .ref h9, .int (-1), .ref h10])), (h1, .inr (8, [.ref h11, .ref h12, .ref h13, .ref h14, .int 0, .int 0]))] [] sz) (Q_X11_count_10 D h0 h1 h2 h3 h4 h5 h6 h7 h8 h9 h10 h11 h12 h13 h14 (va_A [(h0, .inr (11, [.int 0, .ref h1, .ref h2, .ref h3, .int 0, .ref h4, .int 0, .ref h5, .ref h6, .ref h7, .ref h8, .int 0, .ref h9, .int (-1), .ref h10])), (h1, .inr (8, [.ref h11, .ref h12, .ref h13, .ref h14, .int 0, .int 0]))] sz)) 0 0 (va_A [(h0, .inr (11, [.int 0, .ref h1, .ref h2, .ref h3, .int 0, .ref h4, .int 0, .ref h5, .ref h6, .ref h7, .ref h8, .int 0, .ref h9, .int (-1), .ref h10])), (h1, .inr (8, [.ref h11, .ref h12, .ref h13, .ref h14, .int 0, .int 0]))] sz) := by
  refine SP.start (Qf := Q_X11_count_10 D h0 h1 h2 h3 h4 h5 h6 h7 h8 h9 h10 h11 h12 h13 h14) (by decide) (Nat.le_of_ble_eq_true rfl) ?_
  intro p e s m below meth c ls A hx hb hr hml hown hts hlocks hname hA hP hK hD hE hl hS
  have hown : s.vm.findClass RX11 = some m.cls := hown
  have hl : lv_has ls 2 [(0, .ref h0), (1, .int 9)] := hl
  refine lv_iload_n hx hb dX11_count_0 rfl (lv_at hl 1 rfl) ?_
  refine lv_tableIn (off := 112) (tgt := 113) hx hb dX11_count_1 (by decide) (by decide) (by decide) (by decide) ?_
  refine lv_aload_n hx hb dX11_count_113 rfl (lv_at hl 0 rfl) ?_
  refine va_get (D := D) (ci := 11) (v := .ref h1) (C := RX11) (T := TX11) (N := 15) hx hb hts iX11 hown hK hP 0 rfl rfl 1 (by decide) (hts _ kw34) (fun _ h9 => h9) rfl dX11_count_114 ?_
  refine va_get (D := D) (ci := 8) (v := .int 0) (C := RX8) (T := TX8) (N := 6) hx hb hts iX8 hown hK hP 1 rfl rfl 5 (by decide) (hts _ kw420) (fun _ h9 => h9) rfl dX11_count_117 ?_
  exact q_iret () hx hb hr hlocks hP hK hD hS [0, 1] [] rfl rfl rfl dX11_count_120 (Nat.le_of_ble_eq_true rfl) (Nat.le_of_ble_eq_true rfl)
abbrev w_X11_count_11 (h0 : Nat) (a0 : Int32) (_ : Unit) : va_W := []
abbrev t_X11_count_11 (_ : Unit) : List (ClassId × FieldType) := []
abbrev Q_X11_count_11 (D : va_G) (h0 : Nat) (a0 : Int32) (A : Nat → Prop) : Array Value → State → Outcome → State → Prop := QW (.returned (some (.int (-1)))) D (w_X11_count_11 h0 a0) t_X11_count_11 A
set_option maxHeartbeats 4000000 in
set_option maxRecDepth 100000 in
theorem c_X11_count_11 (l : Launch) (D : va_G) (h0 : Nat) (a0 : Int32) (sz : Nat) (v0 : pOut a0 0 9) : Met l yX11_count (.code yX11_count cX11_count 2 (some .int) :: wT) ({ frames := 0, cells := 0, slots := 0, locals := 0 } : Room) (SP D [.ref h0, .int a0] [] [] sz) (Q_X11_count_11 D h0 a0 (va_A [] sz)) 0 0 (va_A [] sz) := by
  refine SP.start (Qf := Q_X11_count_11 D h0 a0) (by decide) (Nat.le_of_ble_eq_true rfl) ?_
  intro p e s m below meth c ls A hx hb hr hml hown hts hlocks hname hA hP hK hD hE hl hS
  have hown : s.vm.findClass RX11 = some m.cls := hown
  have hl : lv_has ls 2 [(0, .ref h0), (1, .int a0)] := hl
  refine lv_iload_n hx hb dX11_count_0 rfl (lv_at hl 1 rfl) ?_
  refine lv_tableOut (tgt := 121) hx hb dX11_count_1 v0 (by decide) ?_
  refine lv_iconst (v := (-1)) hx hb dX11_count_121 (by decide) ?_
  exact q_iret () hx hb hr hlocks hP hK hD hS [] [] rfl rfl rfl dX11_count_122 (Nat.le_of_ble_eq_true rfl) (Nat.le_of_ble_eq_true rfl)
