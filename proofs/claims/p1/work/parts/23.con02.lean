set_option maxHeartbeats 4000000 in
set_option maxRecDepth 100000 in
theorem c_X11_cylinder_2 (l : Launch) (hst : l.stackTraces = false) (D : va_G) (h0 : Nat) (a0 a1 a2 : Int32) (sz : Nat) (v0 : ¬ vCyl a0 a1 a2) : vx_Met l yX11_cylinder (.code yX11_cylinder cX11_cylinder 4 (some .int) :: wT) ({ frames := 7, cells := 1, slots := 6, locals := 103 } : Room) (SPx D [.ref h0, .int a0, .int a1, .int a2] [] [] sz) QNo (XQ "java/lang/IllegalArgumentException" (va_A [] sz)) 1 6 (va_A [] sz) := by
  refine SPx.start (by decide) (Nat.le_of_ble_eq_true rfl) ?_
  intro p e s m below meth c ls A hx hb hr hml hown hts hlocks htab hA hP hK hD hE hZ hl hS
  have hown : s.vm.findClass RX11 = some m.cls := hown
  have hl : lv_has ls 4 [(0, .ref h0), (1, .int a0), (2, .int a1), (3, .int a2)] := hl
  refine lv_iload_n hx hb dX11_cylinder_0 rfl (lv_at hl 1 rfl) ?_
  refine lv_iconst (v := 1) hx hb dX11_cylinder_1 (by decide) ?_
  refine lv_sipush (v := 1000) hx hb dX11_cylinder_2 (by decide +kernel) ?_
  refine q_runP (va_runS (As := [.int a0, .int 1, .int 1000]) (rest := []) ⟨hx, hb, hml, hown, hts⟩ (c_isWithin l a0 1 1000) (cwS 3 hts (gTS kw4 kw5 kw6 kw3) rfl rfl rfl hd1 ⟨(Nat.le_of_ble_eq_true rfl), (Nat.le_of_ble_eq_true rfl)⟩) preEq rfl rfl hl.1 rfl (lv_room (Nat.le_of_ble_eq_true rfl)) dX11_cylinder_5 ⟨(Nat.le_of_ble_eq_true rfl), (Nat.le_of_ble_eq_true rfl)⟩) ?_
  refine lv_if_eq (tgt := 36) hx hb dX11_cylinder_8 (by decide) (fun c1 => ?_) (fun c1 => ?_)
  · have c1 := bz_n c1
    refine lv_iconst (v := 0) hx hb dX11_cylinder_36 (by decide) ?_
    exact q_xout (B := va_A [] s.heap.size) (vx_runS (As := [.int 0]) (rest := []) ⟨hx, hb, hml, hown, hts⟩ (c_X11_require_1 l hst D s.heap.size) (cwS 1 hts (gTS kw242 kw243 kw244 kw3) rfl rfl rfl hd14 ⟨(Nat.le_of_ble_eq_true rfl), (Nat.le_of_ble_eq_true rfl)⟩) (SPx.pre hP hK hD hE hZ hS hA [] [] rfl rfl rfl) rfl rfl hl.1 rfl (lv_room (Nat.le_of_ble_eq_true rfl)) dX11_cylinder_37 ⟨(Nat.le_of_ble_eq_true rfl), (Nat.le_of_ble_eq_true rfl)⟩) hS (va_free (wc := []) hD hS hA [] rfl) htab hlocks (Nat.le_of_ble_eq_true rfl) (Nat.le_of_ble_eq_true rfl)
  · have c1 := bz_p c1
    refine lv_iload_n hx hb dX11_cylinder_11 rfl (lv_at hl 2 rfl) ?_
    refine lv_iconst (v := 1) hx hb dX11_cylinder_12 (by decide) ?_
    refine lv_bipush (v := 100) hx hb dX11_cylinder_13 (by decide) ?_
    refine q_runP (va_runS (As := [.int a1, .int 1, .int 100]) (rest := []) ⟨hx, hb, hml, hown, hts⟩ (c_isWithin l a1 1 100) (cwS 3 hts (gTS kw4 kw5 kw6 kw3) rfl rfl rfl hd1 ⟨(Nat.le_of_ble_eq_true rfl), (Nat.le_of_ble_eq_true rfl)⟩) preEq rfl rfl hl.1 rfl (lv_room (Nat.le_of_ble_eq_true rfl)) dX11_cylinder_15 ⟨(Nat.le_of_ble_eq_true rfl), (Nat.le_of_ble_eq_true rfl)⟩) ?_
    refine lv_if_eq (tgt := 36) hx hb dX11_cylinder_18 (by decide) (fun c2 => ?_) (fun c2 => ?_)
    · have c2 := bz_n c2
      refine lv_iconst (v := 0) hx hb dX11_cylinder_36 (by decide) ?_
      exact q_xout (B := va_A [] s.heap.size) (vx_runS (As := [.int 0]) (rest := []) ⟨hx, hb, hml, hown, hts⟩ (c_X11_require_1 l hst D s.heap.size) (cwS 1 hts (gTS kw242 kw243 kw244 kw3) rfl rfl rfl hd14 ⟨(Nat.le_of_ble_eq_true rfl), (Nat.le_of_ble_eq_true rfl)⟩) (SPx.pre hP hK hD hE hZ hS hA [] [] rfl rfl rfl) rfl rfl hl.1 rfl (lv_room (Nat.le_of_ble_eq_true rfl)) dX11_cylinder_37 ⟨(Nat.le_of_ble_eq_true rfl), (Nat.le_of_ble_eq_true rfl)⟩) hS (va_free (wc := []) hD hS hA [] rfl) htab hlocks (Nat.le_of_ble_eq_true rfl) (Nat.le_of_ble_eq_true rfl)
    · have c2 := bz_p c2
      refine lv_iload_n hx hb dX11_cylinder_21 rfl (lv_at hl 3 rfl) ?_
      refine lv_iconst (v := 0) hx hb dX11_cylinder_22 (by decide) ?_
      refine lv_sipush (v := 1000) hx hb dX11_cylinder_23 (by decide +kernel) ?_
      refine q_runP (va_runS (As := [.int a2, .int 0, .int 1000]) (rest := []) ⟨hx, hb, hml, hown, hts⟩ (c_isWithin l a2 0 1000) (cwS 3 hts (gTS kw4 kw5 kw6 kw3) rfl rfl rfl hd1 ⟨(Nat.le_of_ble_eq_true rfl), (Nat.le_of_ble_eq_true rfl)⟩) preEq rfl rfl hl.1 rfl (lv_room (Nat.le_of_ble_eq_true rfl)) dX11_cylinder_26 ⟨(Nat.le_of_ble_eq_true rfl), (Nat.le_of_ble_eq_true rfl)⟩) ?_
      refine lv_if_eq (tgt := 36) hx hb dX11_cylinder_29 (by decide) (fun c3 => ?_) (fun c3 => ?_)
      · have c3 := bz_n c3
        refine lv_iconst (v := 0) hx hb dX11_cylinder_36 (by decide) ?_
        exact q_xout (B := va_A [] s.heap.size) (vx_runS (As := [.int 0]) (rest := []) ⟨hx, hb, hml, hown, hts⟩ (c_X11_require_1 l hst D s.heap.size) (cwS 1 hts (gTS kw242 kw243 kw244 kw3) rfl rfl rfl hd14 ⟨(Nat.le_of_ble_eq_true rfl), (Nat.le_of_ble_eq_true rfl)⟩) (SPx.pre hP hK hD hE hZ hS hA [] [] rfl rfl rfl) rfl rfl hl.1 rfl (lv_room (Nat.le_of_ble_eq_true rfl)) dX11_cylinder_37 ⟨(Nat.le_of_ble_eq_true rfl), (Nat.le_of_ble_eq_true rfl)⟩) hS (va_free (wc := []) hD hS hA [] rfl) htab hlocks (Nat.le_of_ble_eq_true rfl) (Nat.le_of_ble_eq_true rfl)
      · have c3 := bz_p c3
        exact absurd (show vCyl a0 a1 a2 from ⟨c1, c2, c3⟩) v0
abbrev w_X11_requireFill_1 (a0 a1 : Int32) (_ : Unit) : va_W := []
abbrev t_X11_requireFill_1 (_ : Unit) : List (ClassId × FieldType) := []
abbrev Q_X11_requireFill_1 (D : va_G) (a0 a1 : Int32) (A : Nat → Prop) : Array Value → State → Outcome → State → Prop := QW (.returned none) D (w_X11_requireFill_1 a0 a1) t_X11_requireFill_1 A
set_option maxHeartbeats 4000000 in
set_option maxRecDepth 100000 in
theorem c_X11_requireFill_1 (l : Launch) (D : va_G) (a0 a1 : Int32) (sz : Nat) (v0 : pIn a0 1 10000) (v1 : pIn a1 1 100) : Met l yX11_requireFill (.code yX11_requireFill cX11_requireFill 2 none :: wT) ({ frames := 1, cells := 0, slots := 0, locals := 22 } : Room) (SP D [.int a0, .int a1] [] [] sz) (Q_X11_requireFill_1 D a0 a1 (va_A [] sz)) 0 0 (va_A [] sz) := by
  refine SP.start (Qf := Q_X11_requireFill_1 D a0 a1) (by decide) (Nat.le_of_ble_eq_true rfl) ?_
  intro p e s m below meth c ls A hx hb hr hml hown hts hlocks hname hA hP hK hD hE hl hS
  have hown : s.vm.findClass RX11 = some m.cls := hown
  have hl : lv_has ls 2 [(0, .int a0), (1, .int a1)] := hl
  refine lv_iload_n hx hb dX11_requireFill_0 rfl (lv_at hl 0 rfl) ?_
  refine lv_iconst (v := 1) hx hb dX11_requireFill_1 (by decide) ?_
  refine lv_sipush (v := 10000) hx hb dX11_requireFill_2 (by decide +kernel) ?_
  refine q_runP (va_runS (As := [.int a0, .int 1, .int 10000]) (rest := []) ⟨hx, hb, hml, hown, hts⟩ (c_isWithin l a0 1 10000) (cwS 3 hts (gTS kw4 kw5 kw6 kw3) rfl rfl rfl hd1 ⟨(Nat.le_of_ble_eq_true rfl), (Nat.le_of_ble_eq_true rfl)⟩) preEq rfl rfl hl.1 rfl (lv_room (Nat.le_of_ble_eq_true rfl)) dX11_requireFill_5 ⟨(Nat.le_of_ble_eq_true rfl), (Nat.le_of_ble_eq_true rfl)⟩) ?_
  refine lv_if_eq (tgt := 25) hx hb dX11_requireFill_8 (by decide) (fun c9 => absurd v0 (bz_n c9)) (fun _ => ?_)
  refine lv_iload_n hx hb dX11_requireFill_11 rfl (lv_at hl 1 rfl) ?_
  refine lv_iconst (v := 1) hx hb dX11_requireFill_12 (by decide) ?_
  refine lv_bipush (v := 100) hx hb dX11_requireFill_13 (by decide) ?_
  refine q_runP (va_runS (As := [.int a1, .int 1, .int 100]) (rest := []) ⟨hx, hb, hml, hown, hts⟩ (c_isWithin l a1 1 100) (cwS 3 hts (gTS kw4 kw5 kw6 kw3) rfl rfl rfl hd1 ⟨(Nat.le_of_ble_eq_true rfl), (Nat.le_of_ble_eq_true rfl)⟩) preEq rfl rfl hl.1 rfl (lv_room (Nat.le_of_ble_eq_true rfl)) dX11_requireFill_15 ⟨(Nat.le_of_ble_eq_true rfl), (Nat.le_of_ble_eq_true rfl)⟩) ?_
  refine lv_if_eq (tgt := 25) hx hb dX11_requireFill_18 (by decide) (fun c9 => absurd v1 (bz_n c9)) (fun _ => ?_)
  refine lv_iconst (v := 1) hx hb dX11_requireFill_21 (by decide) ?_
  refine lv_goto (tgt := 26) hx hb dX11_requireFill_22 (by decide) ?_
  refine q_runPv (va_runS (As := [.int 1]) (rest := []) ⟨hx, hb, hml, hown, hts⟩ (c_require_1 l) (cwS 1 hts (gTS kw242 kw243 kw244 kw3) rfl rfl rfl hd14 ⟨(Nat.le_of_ble_eq_true rfl), (Nat.le_of_ble_eq_true rfl)⟩) preEq rfl rfl hl.1 rfl (lv_room (Nat.le_of_ble_eq_true rfl)) dX11_requireFill_26 ⟨(Nat.le_of_ble_eq_true rfl), (Nat.le_of_ble_eq_true rfl)⟩) ?_
  exact q_vret () hx hb hr hlocks hP hK hD hS [] [] rfl rfl rfl dX11_requireFill_29 (Nat.le_of_ble_eq_true rfl) (Nat.le_of_ble_eq_true rfl)
abbrev w_X9_judge_1 (h0 : Nat) (_ : Unit) : va_W := []
abbrev t_X9_judge_1 (_ : Unit) : List (ClassId × FieldType) := []
abbrev Q_X9_judge_1 (D : va_G) (h0 : Nat) (A : Nat → Prop) : Array Value → State → Outcome → State → Prop := QW (.returned none) D (w_X9_judge_1 h0) t_X9_judge_1 A
set_option maxHeartbeats 4000000 in
set_option maxRecDepth 100000 in
theorem c_X9_judge_1 (l : Launch) (D : va_G) (h0 : Nat) (sz : Nat) : Met l yX9_judge (.code yX9_judge cX9_judge 5 none :: wT) ({ frames := 0, cells := 0, slots := 0, locals := 0 } : Room) (SP D [.ref h0, .int 0, .int 0, .int 0, .int 0] [] [] sz) (Q_X9_judge_1 D h0 (va_A [] sz)) 0 0 (va_A [] sz) := by
  refine SP.start (Qf := Q_X9_judge_1 D h0) (by decide) (Nat.le_of_ble_eq_true rfl) ?_
  intro p e s m below meth c ls A hx hb hr hml hown hts hlocks hname hA hP hK hD hE hl hS
  have hown : s.vm.findClass RX9 = some m.cls := hown
  have hl : lv_has ls 5 [(0, .ref h0), (1, .int 0), (2, .int 0), (3, .int 0), (4, .int 0)] := hl
  refine lv_iload_n hx hb dX9_judge_0 rfl (lv_at hl 2 rfl) ?_
  refine lv_iconst (v := 1) hx hb dX9_judge_1 (by decide) ?_
  refine lv_icmp_lt (tgt := 23) hx hb dX9_judge_2 (by decide) (fun _ => ?_) (fun c9 => absurd (by decide +kernel) c9)
  exact q_vret () hx hb hr hlocks hP hK hD hS [] [] rfl rfl rfl dX9_judge_23 (Nat.le_of_ble_eq_true rfl) (Nat.le_of_ble_eq_true rfl)
abbrev w_X9_tryFrom_1 (h0 h1 h2 h3 h4 : Nat) (a0 a1 : Int32) (_ : Unit) : va_W := [(h0, .inr (9, [.ref h1, .ref h2, .ref h3, .ref h4, .int 0, .int a0, .int a1, .int 0, .int 0, .int 0, .int 0, .int 0]))]
abbrev t_X9_tryFrom_1 (_ : Unit) : List (ClassId × FieldType) := []
abbrev Q_X9_tryFrom_1 (D : va_G) (h0 h1 h2 h3 h4 : Nat) (a0 a1 : Int32) (A : Nat → Prop) : Array Value → State → Outcome → State → Prop := QW (.returned none) D (w_X9_tryFrom_1 h0 h1 h2 h3 h4 a0 a1) t_X9_tryFrom_1 A
set_option maxHeartbeats 4000000 in
set_option maxRecDepth 100000 in
theorem c_X9_tryFrom_1 (l : Launch) (D : va_G) (h0 h1 h2 h3 h4 : Nat) (a0 a1 : Int32) (sz : Nat) : Met l yX9_tryFrom (.code yX9_tryFrom cX9_tryFrom 6 none :: wT) ({ frames := 1, cells := 0, slots := 0, locals := 24 } : Room) (SP D [.ref h0, .int 0, .int 0, .int 0, .int 0, .int 0] [(h0, .inr (9, [.ref h1, .ref h2, .ref h3, .ref h4, .int 0, .int a0, .int a1, .int 0, .int 0, .int 0, .int 0, .int 0]))] [] sz) (Q_X9_tryFrom_1 D h0 h1 h2 h3 h4 a0 a1 (va_A [(h0, .inr (9, [.ref h1, .ref h2, .ref h3, .ref h4, .int 0, .int a0, .int a1, .int 0, .int 0, .int 0, .int 0, .int 0]))] sz)) 0 0 (va_A [(h0, .inr (9, [.ref h1, .ref h2, .ref h3, .ref h4, .int 0, .int a0, .int a1, .int 0, .int 0, .int 0, .int 0, .int 0]))] sz) := by
  refine SP.start (Qf := Q_X9_tryFrom_1 D h0 h1 h2 h3 h4 a0 a1) (by decide) (Nat.le_of_ble_eq_true rfl) ?_
  intro p e s m below meth c ls A hx hb hr hml hown hts hlocks hname hA hP hK hD hE hl hS
  have hown : s.vm.findClass RX9 = some m.cls := hown
  have hl : lv_has ls 6 [(0, .ref h0), (1, .int 0), (2, .int 0), (3, .int 0), (4, .int 0), (5, .int 0)] := hl
  refine lv_aload_n hx hb dX9_tryFrom_0 rfl (lv_at hl 0 rfl) ?_
  refine va_get (D := D) (ci := 9) (v := .int 0) (C := RX9) (T := TX9) (N := 12) hx hb hts iX9 hown hK hP 0 rfl rfl 8 (by decide) (hts _ kw47) (fun _ h9 => h9) rfl dX9_tryFrom_1 ?_
  refine lv_if_eq (tgt := 17) hx hb dX9_tryFrom_4 (by decide) (fun _ => ?_) (fun c9 => absurd (by decide +kernel) c9)
  refine lv_iload_n hx hb dX9_tryFrom_17 rfl (lv_at hl 1 rfl) ?_
  refine lv_aload_n hx hb dX9_tryFrom_18 rfl (lv_at hl 0 rfl) ?_
  refine va_get (D := D) (ci := 9) (v := .int 0) (C := RX9) (T := TX9) (N := 12) hx hb hts iX9 hown hK hP 0 rfl rfl 4 (by decide) (hts _ kw43) (fun _ h9 => h9) rfl dX9_tryFrom_19 ?_
  refine lv_icmp_ge (tgt := 31) hx hb dX9_tryFrom_22 (by decide) (fun _ => ?_) (fun c9 => absurd (by decide +kernel) c9)
  refine lv_aload_n hx hb dX9_tryFrom_31 rfl (lv_at hl 0 rfl) ?_
  refine lv_iload_n hx hb dX9_tryFrom_32 rfl (lv_at hl 2 rfl) ?_
  refine lv_iload_n hx hb dX9_tryFrom_33 rfl (lv_at hl 3 rfl) ?_
  refine lv_iload hx hb dX9_tryFrom_34 (lv_at hl 4 rfl) ?_
  refine lv_iload hx hb dX9_tryFrom_36 (lv_at hl 5 rfl) ?_
  refine q_run (D := D) (w1 := w_X9_judge_1 h0) (t1 := t_X9_judge_1) (o := none) (ws := [(h0, .inr (9, [.ref h1, .ref h2, .ref h3, .ref h4, .int 0, .int a0, .int a1, .int 0, .int 0, .int 0, .int 0, .int 0]))]) (wc := []) (wr := [(h0, .inr (9, [.ref h1, .ref h2, .ref h3, .ref h4, .int 0, .int a0, .int a1, .int 0, .int 0, .int 0, .int 0, .int 0]))]) (va_runV (C := RX9) (b := h0) (As := [.int 0, .int 0, .int 0, .int 0]) (rest := []) ⟨hx, hb, hml, hown, hts⟩ (c_X9_judge_1 l D h0 s.heap.size) (cwV 4 hts (gTV kw336 kw337 kw338 kw339 kw37) rfl rfl rfl hd30 ⟨(Nat.le_of_ble_eq_true rfl), (Nat.le_of_ble_eq_true rfl)⟩) ⟨SP.blind, q_recv (ws := [(h0, .inr (9, [.ref h1, .ref h2, .ref h3, .ref h4, .int 0, .int a0, .int a1, .int 0, .int 0, .int 0, .int 0, .int 0]))]) (wc := []) (r := (RX9, TX9, 12)) (ci := 9) (i := 0) hP hK rfl rfl, (SP.pre hP hK hD hE [] [] rfl rfl rfl).2⟩ rfl rfl hl.1 rfl (lv_room (Nat.le_of_ble_eq_true rfl)) dX9_tryFrom_38 ⟨(Nat.le_of_ble_eq_true rfl), (Nat.le_of_ble_eq_true rfl)⟩) hP hK hD hS hA [] [0] rfl rfl rfl (by decide) (fun u H locs hP hK hD hS => ?_)
  refine W.eq (g2 := F0 m 41 ls []) rfl ?_
  refine W.cs (cells' := 0) (slots' := 0) rfl rfl ?_
  have hP : va_P D vwCl [(h0, .inr (9, [.ref h1, .ref h2, .ref h3, .ref h4, .int 0, .int a0, .int a1, .int 0, .int 0, .int 0, .int 0, .int 0]))] H := hP
  have hD : va_D A [(h0, .inr (9, [.ref h1, .ref h2, .ref h3, .ref h4, .int 0, .int a0, .int a1, .int 0, .int 0, .int 0, .int 0, .int 0]))] := hD
  have hK : va_K D vwCl [] s := hK
  exact q_vret () hx hb hr hlocks hP hK hD hS [0] [] rfl rfl rfl dX9_tryFrom_41 (Nat.le_of_ble_eq_true rfl) (Nat.le_of_ble_eq_true rfl)
abbrev w_X9_choose_1 (h0 h1 h2 h3 h4 : Nat) (a0 a1 : Int32) (_ : Unit) : va_W := [(h0, .inr (9, [.ref h1, .ref h2, .ref h3, .ref h4, .int 0, .int a0, .int a1, .int 0, .int 0, .int 0, .int 0, .int 0]))]
abbrev t_X9_choose_1 (_ : Unit) : List (ClassId × FieldType) := []
abbrev Q_X9_choose_1 (D : va_G) (h0 h1 h2 h3 h4 : Nat) (a0 a1 : Int32) (A : Nat → Prop) : Array Value → State → Outcome → State → Prop := QW (.returned (some (.int 0))) D (w_X9_choose_1 h0 h1 h2 h3 h4 a0 a1) t_X9_choose_1 A
set_option maxHeartbeats 4000000 in
set_option maxRecDepth 100000 in
theorem c_X9_choose_1 (l : Launch) (D : va_G) (h0 h1 h2 h3 h4 : Nat) (a0 a1 : Int32) (sz : Nat) : Met l yX9_choose (.code yX9_choose cX9_choose 3 (some .boolean) :: wT) ({ frames := 2, cells := 0, slots := 0, locals := 49 } : Room) (SP D [.ref h0, .int a0, .int a1] [(h0, .inr (9, [.ref h1, .ref h2, .ref h3, .ref h4, .int 0, .int 0, .int 0, .int 0, .int 0, .int 0, .int 0, .int 0]))] [] sz) (Q_X9_choose_1 D h0 h1 h2 h3 h4 a0 a1 (va_A [(h0, .inr (9, [.ref h1, .ref h2, .ref h3, .ref h4, .int 0, .int 0, .int 0, .int 0, .int 0, .int 0, .int 0, .int 0]))] sz)) 0 0 (va_A [(h0, .inr (9, [.ref h1, .ref h2, .ref h3, .ref h4, .int 0, .int 0, .int 0, .int 0, .int 0, .int 0, .int 0, .int 0]))] sz) := by
  refine SP.start (Qf := Q_X9_choose_1 D h0 h1 h2 h3 h4 a0 a1) (by decide) (Nat.le_of_ble_eq_true rfl) ?_
  intro p e s m below meth c ls A hx hb hr hml hown hts hlocks hname hA hP hK hD hE hl hS
  have hown : s.vm.findClass RX9 = some m.cls := hown
  have hl : lv_has ls 3 [(0, .ref h0), (1, .int a0), (2, .int a1)] := hl
  refine lv_aload_n hx hb dX9_choose_0 rfl (lv_at hl 0 rfl) ?_
  refine lv_iload_n hx hb dX9_choose_1 rfl (lv_at hl 1 rfl) ?_
  refine va_put (D := D) (ci := 9) (v := .int a0) (ty := .int) (C := RX9) (T := TX9) (N := 12) hx hb hts iX9 tyX9 tyX9_ok nmX9 hown hK hP hD hS 0 rfl rfl 5 (by decide) (hts _ kw44) (fun _ h9 => h9) rfl (tyX9_ok 5 (by decide)) rfl rfl (Nat.le_of_ble_eq_true rfl) dX9_choose_2 (fun H locs hP hD hS => ?_)
  have hP : va_P D vwCl [(h0, .inr (9, [.ref h1, .ref h2, .ref h3, .ref h4, .int 0, .int a0, .int 0, .int 0, .int 0, .int 0, .int 0, .int 0]))] H := hP
  have hD : va_D A [(h0, .inr (9, [.ref h1, .ref h2, .ref h3, .ref h4, .int 0, .int a0, .int 0, .int 0, .int 0, .int 0, .int 0, .int 0]))] := hD
  refine lv_aload_n hx hb dX9_choose_5 rfl (lv_at hl 0 rfl) ?_
  refine lv_iload_n hx hb dX9_choose_6 rfl (lv_at hl 2 rfl) ?_
  refine va_put (D := D) (ci := 9) (v := .int a1) (ty := .int) (C := RX9) (T := TX9) (N := 12) hx hb hts iX9 tyX9 tyX9_ok nmX9 hown hK hP hD hS 0 rfl rfl 6 (by decide) (hts _ kw45) (fun _ h9 => h9) rfl (tyX9_ok 6 (by decide)) rfl rfl (Nat.le_of_ble_eq_true rfl) dX9_choose_7 (fun H locs hP hD hS => ?_)
  have hP : va_P D vwCl [(h0, .inr (9, [.ref h1, .ref h2, .ref h3, .ref h4, .int 0, .int a0, .int a1, .int 0, .int 0, .int 0, .int 0, .int 0]))] H := hP
  have hD : va_D A [(h0, .inr (9, [.ref h1, .ref h2, .ref h3, .ref h4, .int 0, .int a0, .int a1, .int 0, .int 0, .int 0, .int 0, .int 0]))] := hD
  refine lv_aload_n hx hb dX9_choose_10 rfl (lv_at hl 0 rfl) ?_
  refine lv_iconst (v := 0) hx hb dX9_choose_11 (by decide) ?_
  refine va_put (D := D) (ci := 9) (v := .int 0) (ty := .int) (C := RX9) (T := TX9) (N := 12) hx hb hts iX9 tyX9 tyX9_ok nmX9 hown hK hP hD hS 0 rfl rfl 8 (by decide) (hts _ kw47) (fun _ h9 => h9) rfl (tyX9_ok 8 (by decide)) rfl rfl (Nat.le_of_ble_eq_true rfl) dX9_choose_12 (fun H locs hP hD hS => ?_)
  have hP : va_P D vwCl [(h0, .inr (9, [.ref h1, .ref h2, .ref h3, .ref h4, .int 0, .int a0, .int a1, .int 0, .int 0, .int 0, .int 0, .int 0]))] H := hP
  have hD : va_D A [(h0, .inr (9, [.ref h1, .ref h2, .ref h3, .ref h4, .int 0, .int a0, .int a1, .int 0, .int 0, .int 0, .int 0, .int 0]))] := hD
  refine lv_aload_n hx hb dX9_choose_15 rfl (lv_at hl 0 rfl) ?_
  refine lv_iconst (v := 0) hx hb dX9_choose_16 (by decide) ?_
  refine lv_iconst (v := 0) hx hb dX9_choose_17 (by decide) ?_
  refine lv_iconst (v := 0) hx hb dX9_choose_18 (by decide) ?_
  refine lv_iconst (v := 0) hx hb dX9_choose_19 (by decide) ?_
  refine lv_iconst (v := 0) hx hb dX9_choose_20 (by decide) ?_
  refine q_run (D := D) (w1 := w_X9_tryFrom_1 h0 h1 h2 h3 h4 a0 a1) (t1 := t_X9_tryFrom_1) (o := none) (ws := [(h0, .inr (9, [.ref h1, .ref h2, .ref h3, .ref h4, .int 0, .int a0, .int a1, .int 0, .int 0, .int 0, .int 0, .int 0]))]) (wc := [(h0, .inr (9, [.ref h1, .ref h2, .ref h3, .ref h4, .int 0, .int a0, .int a1, .int 0, .int 0, .int 0, .int 0, .int 0]))]) (wr := []) (va_runV (C := RX9) (b := h0) (As := [.int 0, .int 0, .int 0, .int 0, .int 0]) (rest := []) ⟨hx, hb, hml, hown, hts⟩ (c_X9_tryFrom_1 l D h0 h1 h2 h3 h4 a0 a1 H.size) (cwV 5 hts (gTV kw340 kw341 kw342 kw343 kw37) rfl rfl rfl hd31 ⟨(Nat.le_of_ble_eq_true rfl), (Nat.le_of_ble_eq_true rfl)⟩) ⟨SP.blind, q_recv (ws := [(h0, .inr (9, [.ref h1, .ref h2, .ref h3, .ref h4, .int 0, .int a0, .int a1, .int 0, .int 0, .int 0, .int 0, .int 0]))]) (wc := []) (r := (RX9, TX9, 12)) (ci := 9) (i := 0) hP hK rfl rfl, (SP.pre hP hK hD hE [0] [] rfl rfl rfl).2⟩ rfl rfl hl.1 rfl (lv_room (Nat.le_of_ble_eq_true rfl)) dX9_choose_21 ⟨(Nat.le_of_ble_eq_true rfl), (Nat.le_of_ble_eq_true rfl)⟩) hP hK hD hS hA [0] [] rfl rfl rfl (by decide) (fun u H locs hP hK hD hS => ?_)
  refine W.eq (g2 := F0 m 24 ls []) rfl ?_
  refine W.cs (cells' := 0) (slots' := 0) rfl rfl ?_
  have hP : va_P D vwCl [(h0, .inr (9, [.ref h1, .ref h2, .ref h3, .ref h4, .int 0, .int a0, .int a1, .int 0, .int 0, .int 0, .int 0, .int 0]))] H := hP
  have hD : va_D A [(h0, .inr (9, [.ref h1, .ref h2, .ref h3, .ref h4, .int 0, .int a0, .int a1, .int 0, .int 0, .int 0, .int 0, .int 0]))] := hD
  have hK : va_K D vwCl [] s := hK
  refine lv_aload_n hx hb dX9_choose_24 rfl (lv_at hl 0 rfl) ?_
  refine va_get (D := D) (ci := 9) (v := .int 0) (C := RX9) (T := TX9) (N := 12) hx hb hts iX9 hown hK hP 0 rfl rfl 8 (by decide) (hts _ kw47) (fun _ h9 => h9) rfl dX9_choose_25 ?_
  refine lv_if_eq (tgt := 35) hx hb dX9_choose_28 (by decide) (fun _ => ?_) (fun c9 => absurd (by decide +kernel) c9)
  refine lv_iconst (v := 0) hx hb dX9_choose_35 (by decide) ?_
  exact q_zret () hx hb hr hlocks rfl hP hK hD hS [0] [] rfl rfl rfl dX9_choose_36 (Nat.le_of_ble_eq_true rfl) (Nat.le_of_ble_eq_true rfl)
abbrev w_X11_fillable_1 (h0 h1 h2 h3 h4 h5 h6 h7 h8 h9 h10 h11 h12 h13 h14 : Nat) (a0 a1 a2 : Int32) (_ : Unit) : va_W := [(h0, .inr (11, [.int 0, .ref h2, .ref h1, .ref h3, .int 0, .ref h4, .int 0, .ref h5, .ref h6, .ref h7, .ref h8, .int 0, .ref h9, .int (-1), .ref h10])), (h1, .inr (9, [.ref h11, .ref h12, .ref h13, .ref h14, .int 0, .int a0, .int a1, .int 0, .int 0, .int 0, .int 0, .int 0]))]
abbrev t_X11_fillable_1 (_ : Unit) : List (ClassId × FieldType) := []
abbrev Q_X11_fillable_1 (D : va_G) (h0 h1 h2 h3 h4 h5 h6 h7 h8 h9 h10 h11 h12 h13 h14 : Nat) (a0 a1 a2 : Int32) (A : Nat → Prop) : Array Value → State → Outcome → State → Prop := QW (.returned (some (.int (-1)))) D (w_X11_fillable_1 h0 h1 h2 h3 h4 h5 h6 h7 h8 h9 h10 h11 h12 h13 h14 a0 a1 a2) t_X11_fillable_1 A
set_option maxHeartbeats 4000000 in
set_option maxRecDepth 100000 in
theorem c_X11_fillable_1 (l : Launch) (D : va_G) (h0 h1 h2 h3 h4 h5 h6 h7 h8 h9 h10 h11 h12 h13 h14 : Nat) (a0 a1 a2 : Int32) (sz : Nat) (v0 : pIn a0 1 10000) (v1 : pIn a1 1 100) (v2 : pIn a2 0 3) : Met l yX11_fillable (.code yX11_fillable cX11_fillable 4 (some .int) :: wT) ({ frames := 3, cells := 0, slots := 0, locals := 71 } : Room) (SP D [.ref h0, .int a0, .int a1, .int a2] [(h0, .inr (11, [.int 0, .ref h2, .ref h1, .ref h3, .int 0, .ref h4, .int 0, .ref h5, .ref h6, .ref h7, .ref h8, .int 0, .ref h9, .int (-1), .ref h10])), (h1, .inr (9, [.ref h11, .ref h12, .ref h13, .ref h14, .int 0, .int 0, .int 0, .int 0, .int 0, .int 0, .int 0, .int 0]))] [] sz) (Q_X11_fillable_1 D h0 h1 h2 h3 h4 h5 h6 h7 h8 h9 h10 h11 h12 h13 h14 a0 a1 a2 (va_A [(h0, .inr (11, [.int 0, .ref h2, .ref h1, .ref h3, .int 0, .ref h4, .int 0, .ref h5, .ref h6, .ref h7, .ref h8, .int 0, .ref h9, .int (-1), .ref h10])), (h1, .inr (9, [.ref h11, .ref h12, .ref h13, .ref h14, .int 0, .int 0, .int 0, .int 0, .int 0, .int 0, .int 0, .int 0]))] sz)) 0 0 (va_A [(h0, .inr (11, [.int 0, .ref h2, .ref h1, .ref h3, .int 0, .ref h4, .int 0, .ref h5, .ref h6, .ref h7, .ref h8, .int 0, .ref h9, .int (-1), .ref h10])), (h1, .inr (9, [.ref h11, .ref h12, .ref h13, .ref h14, .int 0, .int 0, .int 0, .int 0, .int 0, .int 0, .int 0, .int 0]))] sz) := by
  refine SP.start (Qf := Q_X11_fillable_1 D h0 h1 h2 h3 h4 h5 h6 h7 h8 h9 h10 h11 h12 h13 h14 a0 a1 a2) (by decide) (Nat.le_of_ble_eq_true rfl) ?_
  intro p e s m below meth c ls A hx hb hr hml hown hts hlocks hname hA hP hK hD hE hl hS
  have hown : s.vm.findClass RX11 = some m.cls := hown
  have hl : lv_has ls 4 [(0, .ref h0), (1, .int a0), (2, .int a1), (3, .int a2)] := hl
  refine lv_iload_n hx hb dX11_fillable_0 rfl (lv_at hl 1 rfl) ?_
  refine lv_iload_n hx hb dX11_fillable_1 rfl (lv_at hl 2 rfl) ?_
  refine q_run (D := D) (w1 := w_X11_requireFill_1 a0 a1) (t1 := t_X11_requireFill_1) (o := none) (ws := [(h0, .inr (11, [.int 0, .ref h2, .ref h1, .ref h3, .int 0, .ref h4, .int 0, .ref h5, .ref h6, .ref h7, .ref h8, .int 0, .ref h9, .int (-1), .ref h10])), (h1, .inr (9, [.ref h11, .ref h12, .ref h13, .ref h14, .int 0, .int 0, .int 0, .int 0, .int 0, .int 0, .int 0, .int 0]))]) (wc := []) (wr := [(h0, .inr (11, [.int 0, .ref h2, .ref h1, .ref h3, .int 0, .ref h4, .int 0, .ref h5, .ref h6, .ref h7, .ref h8, .int 0, .ref h9, .int (-1), .ref h10])), (h1, .inr (9, [.ref h11, .ref h12, .ref h13, .ref h14, .int 0, .int 0, .int 0, .int 0, .int 0, .int 0, .int 0, .int 0]))]) (va_runS (As := [.int a0, .int a1]) (rest := []) ⟨hx, hb, hml, hown, hts⟩ (c_X11_requireFill_1 l D a0 a1 s.heap.size v0 v1) (cwS 2 hts (gTS kw333 kw334 kw335 kw3) rfl rfl rfl hd29 ⟨(Nat.le_of_ble_eq_true rfl), (Nat.le_of_ble_eq_true rfl)⟩) (SP.pre hP hK hD hE [] [] rfl rfl rfl) rfl rfl hl.1 rfl (lv_room (Nat.le_of_ble_eq_true rfl)) dX11_fillable_2 ⟨(Nat.le_of_ble_eq_true rfl), (Nat.le_of_ble_eq_true rfl)⟩) hP hK hD hS hA [] [0, 1] rfl rfl rfl (by decide) (fun u H locs hP hK hD hS => ?_)
  refine W.eq (g2 := F0 m 5 ls []) rfl ?_
  refine W.cs (cells' := 0) (slots' := 0) rfl rfl ?_
  have hP : va_P D vwCl [(h0, .inr (11, [.int 0, .ref h2, .ref h1, .ref h3, .int 0, .ref h4, .int 0, .ref h5, .ref h6, .ref h7, .ref h8, .int 0, .ref h9, .int (-1), .ref h10])), (h1, .inr (9, [.ref h11, .ref h12, .ref h13, .ref h14, .int 0, .int 0, .int 0, .int 0, .int 0, .int 0, .int 0, .int 0]))] H := hP
  have hD : va_D A [(h0, .inr (11, [.int 0, .ref h2, .ref h1, .ref h3, .int 0, .ref h4, .int 0, .ref h5, .ref h6, .ref h7, .ref h8, .int 0, .ref h9, .int (-1), .ref h10])), (h1, .inr (9, [.ref h11, .ref h12, .ref h13, .ref h14, .int 0, .int 0, .int 0, .int 0, .int 0, .int 0, .int 0, .int 0]))] := hD
  have hK : va_K D vwCl [] s := hK
  refine lv_iload_n hx hb dX11_fillable_5 rfl (lv_at hl 3 rfl) ?_
  refine lv_iconst (v := 0) hx hb dX11_fillable_6 (by decide) ?_
  refine lv_iconst (v := 3) hx hb dX11_fillable_7 (by decide) ?_
  refine q_runP (va_runS (As := [.int a2, .int 0, .int 3]) (rest := []) ⟨hx, hb, hml, hown, hts⟩ (c_isWithin l a2 0 3) (cwS 3 hts (gTS kw4 kw5 kw6 kw3) rfl rfl rfl hd1 ⟨(Nat.le_of_ble_eq_true rfl), (Nat.le_of_ble_eq_true rfl)⟩) preEq rfl rfl hl.1 rfl (lv_room (Nat.le_of_ble_eq_true rfl)) dX11_fillable_8 ⟨(Nat.le_of_ble_eq_true rfl), (Nat.le_of_ble_eq_true rfl)⟩) ?_
  refine lv_lit (v := 1) (bz_t v2) ?_
  refine q_runPv (va_runS (As := [.int 1]) (rest := []) ⟨hx, hb, hml, hown, hts⟩ (c_require_1 l) (cwS 1 hts (gTS kw242 kw243 kw244 kw3) rfl rfl rfl hd14 ⟨(Nat.le_of_ble_eq_true rfl), (Nat.le_of_ble_eq_true rfl)⟩) preEq rfl rfl hl.1 rfl (lv_room (Nat.le_of_ble_eq_true rfl)) dX11_fillable_11 ⟨(Nat.le_of_ble_eq_true rfl), (Nat.le_of_ble_eq_true rfl)⟩) ?_
  refine lv_aload_n hx hb dX11_fillable_14 rfl (lv_at hl 0 rfl) ?_
  refine va_get (D := D) (ci := 11) (v := .ref h1) (C := RX11) (T := TX11) (N := 15) hx hb hts iX11 hown hK hP 0 rfl rfl 2 (by decide) (hts _ kw54) (fun _ h9 => h9) rfl dX11_fillable_15 ?_
  refine lv_iload_n hx hb dX11_fillable_18 rfl (lv_at hl 1 rfl) ?_
  refine lv_iload_n hx hb dX11_fillable_19 rfl (lv_at hl 2 rfl) ?_
  refine q_run (D := D) (w1 := w_X9_choose_1 h1 h11 h12 h13 h14 a0 a1) (t1 := t_X9_choose_1) (o := (some (.int 0))) (ws := [(h0, .inr (11, [.int 0, .ref h2, .ref h1, .ref h3, .int 0, .ref h4, .int 0, .ref h5, .ref h6, .ref h7, .ref h8, .int 0, .ref h9, .int (-1), .ref h10])), (h1, .inr (9, [.ref h11, .ref h12, .ref h13, .ref h14, .int 0, .int 0, .int 0, .int 0, .int 0, .int 0, .int 0, .int 0]))]) (wc := [(h1, .inr (9, [.ref h11, .ref h12, .ref h13, .ref h14, .int 0, .int 0, .int 0, .int 0, .int 0, .int 0, .int 0, .int 0]))]) (wr := [(h0, .inr (11, [.int 0, .ref h2, .ref h1, .ref h3, .int 0, .ref h4, .int 0, .ref h5, .ref h6, .ref h7, .ref h8, .int 0, .ref h9, .int (-1), .ref h10]))]) (va_runV (C := RX9) (b := h1) (As := [.int a0, .int a1]) (rest := []) ⟨hx, hb, hml, hown, hts⟩ (c_X9_choose_1 l D h1 h11 h12 h13 h14 a0 a1 H.size) (cwV 2 hts (gTV kw344 kw345 kw346 kw347 kw37) rfl rfl rfl hd32 ⟨(Nat.le_of_ble_eq_true rfl), (Nat.le_of_ble_eq_true rfl)⟩) ⟨SP.blind, q_recv (ws := [(h0, .inr (11, [.int 0, .ref h2, .ref h1, .ref h3, .int 0, .ref h4, .int 0, .ref h5, .ref h6, .ref h7, .ref h8, .int 0, .ref h9, .int (-1), .ref h10])), (h1, .inr (9, [.ref h11, .ref h12, .ref h13, .ref h14, .int 0, .int 0, .int 0, .int 0, .int 0, .int 0, .int 0, .int 0]))]) (wc := []) (r := (RX9, TX9, 12)) (ci := 9) (i := 1) hP hK rfl rfl, (SP.pre hP hK hD hE [1] [] rfl rfl rfl).2⟩ rfl rfl hl.1 rfl (lv_room (Nat.le_of_ble_eq_true rfl)) dX11_fillable_20 ⟨(Nat.le_of_ble_eq_true rfl), (Nat.le_of_ble_eq_true rfl)⟩) hP hK hD hS hA [1] [0] rfl rfl rfl (by decide) (fun u H locs hP hK hD hS => ?_)
  refine W.eq (g2 := F0 m 23 ls [.int 0]) rfl ?_
  refine W.cs (cells' := 0) (slots' := 0) rfl rfl ?_
  have hP : va_P D vwCl [(h0, .inr (11, [.int 0, .ref h2, .ref h1, .ref h3, .int 0, .ref h4, .int 0, .ref h5, .ref h6, .ref h7, .ref h8, .int 0, .ref h9, .int (-1), .ref h10])), (h1, .inr (9, [.ref h11, .ref h12, .ref h13, .ref h14, .int 0, .int a0, .int a1, .int 0, .int 0, .int 0, .int 0, .int 0]))] H := hP
  have hD : va_D A [(h0, .inr (11, [.int 0, .ref h2, .ref h1, .ref h3, .int 0, .ref h4, .int 0, .ref h5, .ref h6, .ref h7, .ref h8, .int 0, .ref h9, .int (-1), .ref h10])), (h1, .inr (9, [.ref h11, .ref h12, .ref h13, .ref h14, .int 0, .int a0, .int a1, .int 0, .int 0, .int 0, .int 0, .int 0]))] := hD
  have hK : va_K D vwCl [] s := hK
  refine lv_if_ne (tgt := 28) hx hb dX11_fillable_23 (by decide) (fun c9 => absurd (by decide +kernel) c9) (fun _ => ?_)
  refine lv_iconst (v := (-1)) hx hb dX11_fillable_26 (by decide) ?_
  exact q_iret () hx hb hr hlocks hP hK hD hS [0, 1] [] rfl rfl rfl dX11_fillable_27 (Nat.le_of_ble_eq_true rfl) (Nat.le_of_ble_eq_true rfl)
set_option maxHeartbeats 4000000 in
set_option maxRecDepth 100000 in
theorem c_X11_requireFill_2 (l : Launch) (hst : l.stackTraces = false) (D : va_G) (a0 a1 : Int32) (sz : Nat) (v0 : ¬ pFill a0 a1) : vx_Met l yX11_requireFill (.code yX11_requireFill cX11_requireFill 2 none :: wT) ({ frames := 7, cells := 1, slots := 6, locals := 103 } : Room) (SPx D [.int a0, .int a1] [] [] sz) QNo (XQ "java/lang/IllegalArgumentException" (va_A [] sz)) 1 6 (va_A [] sz) := by
  refine SPx.start (by decide) (Nat.le_of_ble_eq_true rfl) ?_
  intro p e s m below meth c ls A hx hb hr hml hown hts hlocks htab hA hP hK hD hE hZ hl hS
  have hown : s.vm.findClass RX11 = some m.cls := hown
  have hl : lv_has ls 2 [(0, .int a0), (1, .int a1)] := hl
  refine lv_iload_n hx hb dX11_requireFill_0 rfl (lv_at hl 0 rfl) ?_
  refine lv_iconst (v := 1) hx hb dX11_requireFill_1 (by decide) ?_
  refine lv_sipush (v := 10000) hx hb dX11_requireFill_2 (by decide +kernel) ?_
  refine q_runP (va_runS (As := [.int a0, .int 1, .int 10000]) (rest := []) ⟨hx, hb, hml, hown, hts⟩ (c_isWithin l a0 1 10000) (cwS 3 hts (gTS kw4 kw5 kw6 kw3) rfl rfl rfl hd1 ⟨(Nat.le_of_ble_eq_true rfl), (Nat.le_of_ble_eq_true rfl)⟩) preEq rfl rfl hl.1 rfl (lv_room (Nat.le_of_ble_eq_true rfl)) dX11_requireFill_5 ⟨(Nat.le_of_ble_eq_true rfl), (Nat.le_of_ble_eq_true rfl)⟩) ?_
  refine lv_if_eq (tgt := 25) hx hb dX11_requireFill_8 (by decide) (fun c1 => ?_) (fun c1 => ?_)
  · have c1 := bz_n c1
    refine lv_iconst (v := 0) hx hb dX11_requireFill_25 (by decide) ?_
    exact q_xout (B := va_A [] s.heap.size) (vx_runS (As := [.int 0]) (rest := []) ⟨hx, hb, hml, hown, hts⟩ (c_X11_require_1 l hst D s.heap.size) (cwS 1 hts (gTS kw242 kw243 kw244 kw3) rfl rfl rfl hd14 ⟨(Nat.le_of_ble_eq_true rfl), (Nat.le_of_ble_eq_true rfl)⟩) (SPx.pre hP hK hD hE hZ hS hA [] [] rfl rfl rfl) rfl rfl hl.1 rfl (lv_room (Nat.le_of_ble_eq_true rfl)) dX11_requireFill_26 ⟨(Nat.le_of_ble_eq_true rfl), (Nat.le_of_ble_eq_true rfl)⟩) hS (va_free (wc := []) hD hS hA [] rfl) htab hlocks (Nat.le_of_ble_eq_true rfl) (Nat.le_of_ble_eq_true rfl)
  · have c1 := bz_p c1
    refine lv_iload_n hx hb dX11_requireFill_11 rfl (lv_at hl 1 rfl) ?_
    refine lv_iconst (v := 1) hx hb dX11_requireFill_12 (by decide) ?_
    refine lv_bipush (v := 100) hx hb dX11_requireFill_13 (by decide) ?_
    refine q_runP (va_runS (As := [.int a1, .int 1, .int 100]) (rest := []) ⟨hx, hb, hml, hown, hts⟩ (c_isWithin l a1 1 100) (cwS 3 hts (gTS kw4 kw5 kw6 kw3) rfl rfl rfl hd1 ⟨(Nat.le_of_ble_eq_true rfl), (Nat.le_of_ble_eq_true rfl)⟩) preEq rfl rfl hl.1 rfl (lv_room (Nat.le_of_ble_eq_true rfl)) dX11_requireFill_15 ⟨(Nat.le_of_ble_eq_true rfl), (Nat.le_of_ble_eq_true rfl)⟩) ?_
    refine lv_if_eq (tgt := 25) hx hb dX11_requireFill_18 (by decide) (fun c2 => ?_) (fun c2 => ?_)
    · have c2 := bz_n c2
      refine lv_iconst (v := 0) hx hb dX11_requireFill_25 (by decide) ?_
      exact q_xout (B := va_A [] s.heap.size) (vx_runS (As := [.int 0]) (rest := []) ⟨hx, hb, hml, hown, hts⟩ (c_X11_require_1 l hst D s.heap.size) (cwS 1 hts (gTS kw242 kw243 kw244 kw3) rfl rfl rfl hd14 ⟨(Nat.le_of_ble_eq_true rfl), (Nat.le_of_ble_eq_true rfl)⟩) (SPx.pre hP hK hD hE hZ hS hA [] [] rfl rfl rfl) rfl rfl hl.1 rfl (lv_room (Nat.le_of_ble_eq_true rfl)) dX11_requireFill_26 ⟨(Nat.le_of_ble_eq_true rfl), (Nat.le_of_ble_eq_true rfl)⟩) hS (va_free (wc := []) hD hS hA [] rfl) htab hlocks (Nat.le_of_ble_eq_true rfl) (Nat.le_of_ble_eq_true rfl)
    · have c2 := bz_p c2
      exact absurd (show pFill a0 a1 from ⟨c1, c2⟩) v0
set_option maxHeartbeats 4000000 in
set_option maxRecDepth 100000 in
theorem c_X11_fillable_2 (l : Launch) (hst : l.stackTraces = false) (D : va_G) (h0 : Nat) (a0 a1 a2 : Int32) (sz : Nat) (v0 : ¬ vFable a0 a1 a2) : vx_Met l yX11_fillable (.code yX11_fillable cX11_fillable 4 (some .int) :: wT) ({ frames := 8, cells := 1, slots := 6, locals := 124 } : Room) (SPx D [.ref h0, .int a0, .int a1, .int a2] [] [] sz) QNo (XQ "java/lang/IllegalArgumentException" (va_A [] sz)) 1 6 (va_A [] sz) := by
  refine SPx.start (by decide) (Nat.le_of_ble_eq_true rfl) ?_
  intro p e s m below meth c ls A hx hb hr hml hown hts hlocks htab hA hP hK hD hE hZ hl hS
  have hown : s.vm.findClass RX11 = some m.cls := hown
  have hl : lv_has ls 4 [(0, .ref h0), (1, .int a0), (2, .int a1), (3, .int a2)] := hl
  refine lv_iload_n hx hb dX11_fillable_0 rfl (lv_at hl 1 rfl) ?_
  refine lv_iload_n hx hb dX11_fillable_1 rfl (lv_at hl 2 rfl) ?_
  rcases Classical.em (pFill a0 a1) with c1 | c1
  · refine q_run (D := D) (w1 := w_X11_requireFill_1 a0 a1) (t1 := t_X11_requireFill_1) (o := none) (ws := []) (wc := []) (wr := []) (va_runS (As := [.int a0, .int a1]) (rest := []) ⟨hx, hb, hml, hown, hts⟩ (c_X11_requireFill_1 l D a0 a1 s.heap.size c1.1 c1.2) (cwS 2 hts (gTS kw333 kw334 kw335 kw3) rfl rfl rfl hd29 ⟨(Nat.le_of_ble_eq_true rfl), (Nat.le_of_ble_eq_true rfl)⟩) (SP.pre hP hK hD hE [] [] rfl rfl rfl) rfl rfl hl.1 rfl (lv_room (Nat.le_of_ble_eq_true rfl)) dX11_fillable_2 ⟨(Nat.le_of_ble_eq_true rfl), (Nat.le_of_ble_eq_true rfl)⟩) hP hK hD hS hA [] [] rfl rfl rfl (by decide) (fun u H locs hP hK hD hS => ?_)
    refine W.eq (g2 := F0 m 5 ls []) rfl ?_
    refine W.cs (cells' := 0) (slots' := 0) rfl rfl ?_
    have hP : va_P D vwCl [] H := hP
    have hD : va_D A [] := hD
    have hK : va_K D vwCl [] s := hK
    refine lv_iload_n hx hb dX11_fillable_5 rfl (lv_at hl 3 rfl) ?_
    refine lv_iconst (v := 0) hx hb dX11_fillable_6 (by decide) ?_
    refine lv_iconst (v := 3) hx hb dX11_fillable_7 (by decide) ?_
    refine q_runP (va_runS (As := [.int a2, .int 0, .int 3]) (rest := []) ⟨hx, hb, hml, hown, hts⟩ (c_isWithin l a2 0 3) (cwS 3 hts (gTS kw4 kw5 kw6 kw3) rfl rfl rfl hd1 ⟨(Nat.le_of_ble_eq_true rfl), (Nat.le_of_ble_eq_true rfl)⟩) preEq rfl rfl hl.1 rfl (lv_room (Nat.le_of_ble_eq_true rfl)) dX11_fillable_8 ⟨(Nat.le_of_ble_eq_true rfl), (Nat.le_of_ble_eq_true rfl)⟩) ?_
    rcases Classical.em (pIn a2 0 3) with c2 | c2
    · exact absurd (show vFable a0 a1 a2 from ⟨c1.1, c1.2, c2⟩) v0
    · refine lv_lit (v := 0) (bz_f c2) ?_
      exact q_xout (B := va_A [] H.size) (vx_runS (As := [.int 0]) (rest := []) ⟨hx, hb, hml, hown, hts⟩ (c_X11_require_1 l hst D H.size) (cwS 1 hts (gTS kw242 kw243 kw244 kw3) rfl rfl rfl hd14 ⟨(Nat.le_of_ble_eq_true rfl), (Nat.le_of_ble_eq_true rfl)⟩) (SPx.pre hP hK hD hE hZ hS hA [] [] rfl rfl rfl) rfl rfl hl.1 rfl (lv_room (Nat.le_of_ble_eq_true rfl)) dX11_fillable_11 ⟨(Nat.le_of_ble_eq_true rfl), (Nat.le_of_ble_eq_true rfl)⟩) hS (va_free (wc := []) hD hS hA [] rfl) htab hlocks (Nat.le_of_ble_eq_true rfl) (Nat.le_of_ble_eq_true rfl)
  · exact q_xout (B := va_A [] s.heap.size) (vx_runS (As := [.int a0, .int a1]) (rest := []) ⟨hx, hb, hml, hown, hts⟩ (c_X11_requireFill_2 l hst D a0 a1 s.heap.size c1) (cwS 2 hts (gTS kw333 kw334 kw335 kw3) rfl rfl rfl hd29 ⟨(Nat.le_of_ble_eq_true rfl), (Nat.le_of_ble_eq_true rfl)⟩) (SPx.pre hP hK hD hE hZ hS hA [] [] rfl rfl rfl) rfl rfl hl.1 rfl (lv_room (Nat.le_of_ble_eq_true rfl)) dX11_fillable_2 ⟨(Nat.le_of_ble_eq_true rfl), (Nat.le_of_ble_eq_true rfl)⟩) hS (va_free (wc := []) hD hS hA [] rfl) htab hlocks (Nat.le_of_ble_eq_true rfl) (Nat.le_of_ble_eq_true rfl)
abbrev w_X10_init_1 (h0 : Nat) (a0 a1 a2 : Int32) (_ : Unit) : va_W := [(h0, .inr (10, [.int a2, .int (if a1 - a1 / 24 * 24 < a0 - a0 / 24 * 24 then a1 - a1 / 24 * 24 else a0 - a0 / 24 * 24), .int (if a0 - a0 / 24 * 24 < a1 - a1 / 24 * 24 then a1 - a1 / 24 * 24 else a0 - a0 / 24 * 24), .int (if a1 / 24 < a0 / 24 then a1 / 24 else a0 / 24), .int (if a0 / 24 < a1 / 24 then a1 / 24 else a0 / 24), .int 0, .int 0, .int 0, .int 0]))]
abbrev t_X10_init_1 (_ : Unit) : List (ClassId × FieldType) := []
abbrev Q_X10_init_1 (D : va_G) (h0 : Nat) (a0 a1 a2 : Int32) (A : Nat → Prop) : Array Value → State → Outcome → State → Prop := QW (.returned none) D (w_X10_init_1 h0 a0 a1 a2) t_X10_init_1 A
set_option maxHeartbeats 4000000 in
set_option maxRecDepth 100000 in
theorem c_X10_init_1 (l : Launch) (D : va_G) (h0 : Nat) (a0 a1 a2 : Int32) (sz : Nat) : Met l yX10_init (.code yX10_init cX10_init 4 none :: wT) ({ frames := 1, cells := 0, slots := 0, locals := 14 } : Room) (SP D [.ref h0, .int a0, .int a1, .int a2] [(h0, .inr (10, [.int 0, .int 0, .int 0, .int 0, .int 0, .int 0, .int 0, .int 0, .int 0]))] [] sz) (Q_X10_init_1 D h0 a0 a1 a2 (va_A [(h0, .inr (10, [.int 0, .int 0, .int 0, .int 0, .int 0, .int 0, .int 0, .int 0, .int 0]))] sz)) 0 0 (va_A [(h0, .inr (10, [.int 0, .int 0, .int 0, .int 0, .int 0, .int 0, .int 0, .int 0, .int 0]))] sz) := by
  refine SP.start (Qf := Q_X10_init_1 D h0 a0 a1 a2) (by decide) (Nat.le_of_ble_eq_true rfl) ?_
  intro p e s m below meth c ls A hx hb hr hml hown hts hlocks hname hA hP hK hD hE hl hS
  have hown : s.vm.findClass RX10 = some m.cls := hown
  have hl : lv_has ls 4 [(0, .ref h0), (1, .int a0), (2, .int a1), (3, .int a2)] := hl
  refine lv_aload_n hx hb dX10_init_0 rfl (lv_at hl 0 rfl) ?_
  refine W.objInit hx hb hown (hts _ kw350) (hts _ kw15) (hts _ kw16) rfl (by rw [hml]; exact hl.1) rfl dX10_init_1 (Nat.le_of_ble_eq_true rfl) (Nat.le_of_ble_eq_true rfl) ?_
  refine W.eq (g2 := F0 m 4 ls []) rfl ?_
  refine lv_aload_n hx hb dX10_init_4 rfl (lv_at hl 0 rfl) ?_
  refine lv_iconst (v := 0) hx hb dX10_init_5 (by decide) ?_
  refine va_put (D := D) (ci := 10) (v := .int 0) (ty := .int) (C := RX10) (T := TX10) (N := 9) hx hb hts iX10 tyX10 tyX10_ok nmX10 hown hK hP hD hS 0 rfl rfl 5 (by decide) (hts _ kw351) (fun _ h9 => h9) rfl (tyX10_ok 5 (by decide)) rfl rfl (Nat.le_of_ble_eq_true rfl) dX10_init_6 (fun H locs hP hD hS => ?_)
  have hP : va_P D vwCl [(h0, .inr (10, [.int 0, .int 0, .int 0, .int 0, .int 0, .int 0, .int 0, .int 0, .int 0]))] H := hP
  have hD : va_D A [(h0, .inr (10, [.int 0, .int 0, .int 0, .int 0, .int 0, .int 0, .int 0, .int 0, .int 0]))] := hD
  refine lv_aload_n hx hb dX10_init_9 rfl (lv_at hl 0 rfl) ?_
  refine lv_iconst (v := 0) hx hb dX10_init_10 (by decide) ?_
  refine va_put (D := D) (ci := 10) (v := .int 0) (ty := .int) (C := RX10) (T := TX10) (N := 9) hx hb hts iX10 tyX10 tyX10_ok nmX10 hown hK hP hD hS 0 rfl rfl 6 (by decide) (hts _ kw352) (fun _ h9 => h9) rfl (tyX10_ok 6 (by decide)) rfl rfl (Nat.le_of_ble_eq_true rfl) dX10_init_11 (fun H locs hP hD hS => ?_)
  have hP : va_P D vwCl [(h0, .inr (10, [.int 0, .int 0, .int 0, .int 0, .int 0, .int 0, .int 0, .int 0, .int 0]))] H := hP
  have hD : va_D A [(h0, .inr (10, [.int 0, .int 0, .int 0, .int 0, .int 0, .int 0, .int 0, .int 0, .int 0]))] := hD
  refine lv_aload_n hx hb dX10_init_14 rfl (lv_at hl 0 rfl) ?_
  refine lv_iconst (v := 0) hx hb dX10_init_15 (by decide) ?_
  refine va_put (D := D) (ci := 10) (v := .int 0) (ty := .int) (C := RX10) (T := TX10) (N := 9) hx hb hts iX10 tyX10 tyX10_ok nmX10 hown hK hP hD hS 0 rfl rfl 7 (by decide) (hts _ kw353) (fun _ h9 => h9) rfl (tyX10_ok 7 (by decide)) rfl rfl (Nat.le_of_ble_eq_true rfl) dX10_init_16 (fun H locs hP hD hS => ?_)
  have hP : va_P D vwCl [(h0, .inr (10, [.int 0, .int 0, .int 0, .int 0, .int 0, .int 0, .int 0, .int 0, .int 0]))] H := hP
  have hD : va_D A [(h0, .inr (10, [.int 0, .int 0, .int 0, .int 0, .int 0, .int 0, .int 0, .int 0, .int 0]))] := hD
  refine lv_aload_n hx hb dX10_init_19 rfl (lv_at hl 0 rfl) ?_
  refine lv_iconst (v := 0) hx hb dX10_init_20 (by decide) ?_
  refine va_put (D := D) (ci := 10) (v := .int 0) (ty := .int) (C := RX10) (T := TX10) (N := 9) hx hb hts iX10 tyX10 tyX10_ok nmX10 hown hK hP hD hS 0 rfl rfl 8 (by decide) (hts _ kw354) (fun _ h9 => h9) rfl (tyX10_ok 8 (by decide)) rfl rfl (Nat.le_of_ble_eq_true rfl) dX10_init_21 (fun H locs hP hD hS => ?_)
  have hP : va_P D vwCl [(h0, .inr (10, [.int 0, .int 0, .int 0, .int 0, .int 0, .int 0, .int 0, .int 0, .int 0]))] H := hP
  have hD : va_D A [(h0, .inr (10, [.int 0, .int 0, .int 0, .int 0, .int 0, .int 0, .int 0, .int 0, .int 0]))] := hD
  refine lv_aload_n hx hb dX10_init_24 rfl (lv_at hl 0 rfl) ?_
  refine lv_iload_n hx hb dX10_init_25 rfl (lv_at hl 3 rfl) ?_
  refine va_putF (D := D) (ci := 10) (v := .int a2) (ty := .int) (C := RX10) (T := TX10) (N := 9) hx hb hts iX10 tyX10 tyX10_ok nmX10 hown hK hP hD hS 0 rfl rfl 0 (by decide) (hts _ kw355) (fun _ h9 => h9) rfl hname rfl (tyX10_ok 0 (by decide)) rfl rfl (Nat.le_of_ble_eq_true rfl) dX10_init_26 (fun H locs hP hD hS => ?_)
  have hP : va_P D vwCl [(h0, .inr (10, [.int a2, .int 0, .int 0, .int 0, .int 0, .int 0, .int 0, .int 0, .int 0]))] H := hP
  have hD : va_D A [(h0, .inr (10, [.int a2, .int 0, .int 0, .int 0, .int 0, .int 0, .int 0, .int 0, .int 0]))] := hD
  refine lv_aload_n hx hb dX10_init_29 rfl (lv_at hl 0 rfl) ?_
  refine lv_iload_n hx hb dX10_init_30 rfl (lv_at hl 1 rfl) ?_
  refine lv_bipush (v := 24) hx hb dX10_init_31 (by decide) ?_
  refine lv_irem hx hb dX10_init_33 (by decide) ?_
  refine lv_iload_n hx hb dX10_init_34 rfl (lv_at hl 2 rfl) ?_
  refine lv_bipush (v := 24) hx hb dX10_init_35 (by decide) ?_
  refine lv_irem hx hb dX10_init_37 (by decide) ?_
  refine va_mmin hx hb (by rw [hml]; exact hl.1.symm) hown (hts _ kw356) (hts _ kw357) (hts _ kw358) (hts _ kw359) (Nat.le_of_ble_eq_true rfl) (Nat.le_of_ble_eq_true rfl) (Nat.le_of_ble_eq_true rfl) (Nat.le_of_ble_eq_true rfl) dX10_init_38 ?_
  refine va_putF (D := D) (ci := 10) (v := .int (if a1 - a1 / 24 * 24 < a0 - a0 / 24 * 24 then a1 - a1 / 24 * 24 else a0 - a0 / 24 * 24)) (ty := .int) (C := RX10) (T := TX10) (N := 9) hx hb hts iX10 tyX10 tyX10_ok nmX10 hown hK hP hD hS 0 rfl rfl 1 (by decide) (hts _ kw360) (fun _ h9 => h9) rfl hname rfl (tyX10_ok 1 (by decide)) rfl rfl (Nat.le_of_ble_eq_true rfl) dX10_init_41 (fun H locs hP hD hS => ?_)
  have hP : va_P D vwCl [(h0, .inr (10, [.int a2, .int (if a1 - a1 / 24 * 24 < a0 - a0 / 24 * 24 then a1 - a1 / 24 * 24 else a0 - a0 / 24 * 24), .int 0, .int 0, .int 0, .int 0, .int 0, .int 0, .int 0]))] H := hP
  have hD : va_D A [(h0, .inr (10, [.int a2, .int (if a1 - a1 / 24 * 24 < a0 - a0 / 24 * 24 then a1 - a1 / 24 * 24 else a0 - a0 / 24 * 24), .int 0, .int 0, .int 0, .int 0, .int 0, .int 0, .int 0]))] := hD
  refine lv_aload_n hx hb dX10_init_44 rfl (lv_at hl 0 rfl) ?_
  refine lv_iload_n hx hb dX10_init_45 rfl (lv_at hl 1 rfl) ?_
  refine lv_bipush (v := 24) hx hb dX10_init_46 (by decide) ?_
  refine lv_irem hx hb dX10_init_48 (by decide) ?_
  refine lv_iload_n hx hb dX10_init_49 rfl (lv_at hl 2 rfl) ?_
  refine lv_bipush (v := 24) hx hb dX10_init_50 (by decide) ?_
  refine lv_irem hx hb dX10_init_52 (by decide) ?_
  refine va_mmax hx hb (by rw [hml]; exact hl.1.symm) hown (hts _ kw361) (hts _ kw362) (hts _ kw358) (hts _ kw363) (Nat.le_of_ble_eq_true rfl) (Nat.le_of_ble_eq_true rfl) (Nat.le_of_ble_eq_true rfl) (Nat.le_of_ble_eq_true rfl) dX10_init_53 ?_
  refine va_putF (D := D) (ci := 10) (v := .int (if a0 - a0 / 24 * 24 < a1 - a1 / 24 * 24 then a1 - a1 / 24 * 24 else a0 - a0 / 24 * 24)) (ty := .int) (C := RX10) (T := TX10) (N := 9) hx hb hts iX10 tyX10 tyX10_ok nmX10 hown hK hP hD hS 0 rfl rfl 2 (by decide) (hts _ kw364) (fun _ h9 => h9) rfl hname rfl (tyX10_ok 2 (by decide)) rfl rfl (Nat.le_of_ble_eq_true rfl) dX10_init_56 (fun H locs hP hD hS => ?_)
  have hP : va_P D vwCl [(h0, .inr (10, [.int a2, .int (if a1 - a1 / 24 * 24 < a0 - a0 / 24 * 24 then a1 - a1 / 24 * 24 else a0 - a0 / 24 * 24), .int (if a0 - a0 / 24 * 24 < a1 - a1 / 24 * 24 then a1 - a1 / 24 * 24 else a0 - a0 / 24 * 24), .int 0, .int 0, .int 0, .int 0, .int 0, .int 0]))] H := hP
  have hD : va_D A [(h0, .inr (10, [.int a2, .int (if a1 - a1 / 24 * 24 < a0 - a0 / 24 * 24 then a1 - a1 / 24 * 24 else a0 - a0 / 24 * 24), .int (if a0 - a0 / 24 * 24 < a1 - a1 / 24 * 24 then a1 - a1 / 24 * 24 else a0 - a0 / 24 * 24), .int 0, .int 0, .int 0, .int 0, .int 0, .int 0]))] := hD
  refine lv_aload_n hx hb dX10_init_59 rfl (lv_at hl 0 rfl) ?_
  refine lv_iload_n hx hb dX10_init_60 rfl (lv_at hl 1 rfl) ?_
  refine lv_bipush (v := 24) hx hb dX10_init_61 (by decide) ?_
  refine lv_idiv hx hb dX10_init_63 (by decide) ?_
  refine lv_iload_n hx hb dX10_init_64 rfl (lv_at hl 2 rfl) ?_
  refine lv_bipush (v := 24) hx hb dX10_init_65 (by decide) ?_
  refine lv_idiv hx hb dX10_init_67 (by decide) ?_
  refine va_mmin hx hb (by rw [hml]; exact hl.1.symm) hown (hts _ kw356) (hts _ kw357) (hts _ kw358) (hts _ kw359) (Nat.le_of_ble_eq_true rfl) (Nat.le_of_ble_eq_true rfl) (Nat.le_of_ble_eq_true rfl) (Nat.le_of_ble_eq_true rfl) dX10_init_68 ?_
  refine va_putF (D := D) (ci := 10) (v := .int (if a1 / 24 < a0 / 24 then a1 / 24 else a0 / 24)) (ty := .int) (C := RX10) (T := TX10) (N := 9) hx hb hts iX10 tyX10 tyX10_ok nmX10 hown hK hP hD hS 0 rfl rfl 3 (by decide) (hts _ kw365) (fun _ h9 => h9) rfl hname rfl (tyX10_ok 3 (by decide)) rfl rfl (Nat.le_of_ble_eq_true rfl) dX10_init_71 (fun H locs hP hD hS => ?_)
  have hP : va_P D vwCl [(h0, .inr (10, [.int a2, .int (if a1 - a1 / 24 * 24 < a0 - a0 / 24 * 24 then a1 - a1 / 24 * 24 else a0 - a0 / 24 * 24), .int (if a0 - a0 / 24 * 24 < a1 - a1 / 24 * 24 then a1 - a1 / 24 * 24 else a0 - a0 / 24 * 24), .int (if a1 / 24 < a0 / 24 then a1 / 24 else a0 / 24), .int 0, .int 0, .int 0, .int 0, .int 0]))] H := hP
  have hD : va_D A [(h0, .inr (10, [.int a2, .int (if a1 - a1 / 24 * 24 < a0 - a0 / 24 * 24 then a1 - a1 / 24 * 24 else a0 - a0 / 24 * 24), .int (if a0 - a0 / 24 * 24 < a1 - a1 / 24 * 24 then a1 - a1 / 24 * 24 else a0 - a0 / 24 * 24), .int (if a1 / 24 < a0 / 24 then a1 / 24 else a0 / 24), .int 0, .int 0, .int 0, .int 0, .int 0]))] := hD
  refine lv_aload_n hx hb dX10_init_74 rfl (lv_at hl 0 rfl) ?_
  refine lv_iload_n hx hb dX10_init_75 rfl (lv_at hl 1 rfl) ?_
  refine lv_bipush (v := 24) hx hb dX10_init_76 (by decide) ?_
  refine lv_idiv hx hb dX10_init_78 (by decide) ?_
  refine lv_iload_n hx hb dX10_init_79 rfl (lv_at hl 2 rfl) ?_
  refine lv_bipush (v := 24) hx hb dX10_init_80 (by decide) ?_
  refine lv_idiv hx hb dX10_init_82 (by decide) ?_
  refine va_mmax hx hb (by rw [hml]; exact hl.1.symm) hown (hts _ kw361) (hts _ kw362) (hts _ kw358) (hts _ kw363) (Nat.le_of_ble_eq_true rfl) (Nat.le_of_ble_eq_true rfl) (Nat.le_of_ble_eq_true rfl) (Nat.le_of_ble_eq_true rfl) dX10_init_83 ?_
  refine va_putF (D := D) (ci := 10) (v := .int (if a0 / 24 < a1 / 24 then a1 / 24 else a0 / 24)) (ty := .int) (C := RX10) (T := TX10) (N := 9) hx hb hts iX10 tyX10 tyX10_ok nmX10 hown hK hP hD hS 0 rfl rfl 4 (by decide) (hts _ kw366) (fun _ h9 => h9) rfl hname rfl (tyX10_ok 4 (by decide)) rfl rfl (Nat.le_of_ble_eq_true rfl) dX10_init_86 (fun H locs hP hD hS => ?_)
  have hP : va_P D vwCl [(h0, .inr (10, [.int a2, .int (if a1 - a1 / 24 * 24 < a0 - a0 / 24 * 24 then a1 - a1 / 24 * 24 else a0 - a0 / 24 * 24), .int (if a0 - a0 / 24 * 24 < a1 - a1 / 24 * 24 then a1 - a1 / 24 * 24 else a0 - a0 / 24 * 24), .int (if a1 / 24 < a0 / 24 then a1 / 24 else a0 / 24), .int (if a0 / 24 < a1 / 24 then a1 / 24 else a0 / 24), .int 0, .int 0, .int 0, .int 0]))] H := hP
  have hD : va_D A [(h0, .inr (10, [.int a2, .int (if a1 - a1 / 24 * 24 < a0 - a0 / 24 * 24 then a1 - a1 / 24 * 24 else a0 - a0 / 24 * 24), .int (if a0 - a0 / 24 * 24 < a1 - a1 / 24 * 24 then a1 - a1 / 24 * 24 else a0 - a0 / 24 * 24), .int (if a1 / 24 < a0 / 24 then a1 / 24 else a0 / 24), .int (if a0 / 24 < a1 / 24 then a1 / 24 else a0 / 24), .int 0, .int 0, .int 0, .int 0]))] := hD
  exact q_vret () hx hb hr hlocks hP hK hD hS [0] [] rfl rfl rfl dX10_init_89 (Nat.le_of_ble_eq_true rfl) (Nat.le_of_ble_eq_true rfl)
abbrev w_X10_limit_1 (h0 : Nat) (a0 a1 a2 a3 a4 a5 a6 a7 a8 : Int32) (_ : Unit) : va_W := [(h0, .inr (10, [.int a4, .int a5, .int a6, .int a7, .int a8, .int a0, .int a1, .int a2, .int a3]))]
abbrev t_X10_limit_1 (_ : Unit) : List (ClassId × FieldType) := []
abbrev Q_X10_limit_1 (D : va_G) (h0 : Nat) (a0 a1 a2 a3 a4 a5 a6 a7 a8 : Int32) (A : Nat → Prop) : Array Value → State → Outcome → State → Prop := QW (.returned none) D (w_X10_limit_1 h0 a0 a1 a2 a3 a4 a5 a6 a7 a8) t_X10_limit_1 A
set_option maxHeartbeats 4000000 in
set_option maxRecDepth 100000 in
theorem c_X10_limit_1 (l : Launch) (D : va_G) (h0 : Nat) (a0 a1 a2 a3 a4 a5 a6 a7 a8 : Int32) (sz : Nat) : Met l yX10_limit (.code yX10_limit cX10_limit 5 none :: wT) ({ frames := 0, cells := 0, slots := 0, locals := 0 } : Room) (SP D [.ref h0, .int a0, .int a1, .int a2, .int a3] [(h0, .inr (10, [.int a4, .int a5, .int a6, .int a7, .int a8, .int 0, .int 0, .int 0, .int 0]))] [] sz) (Q_X10_limit_1 D h0 a0 a1 a2 a3 a4 a5 a6 a7 a8 (va_A [(h0, .inr (10, [.int a4, .int a5, .int a6, .int a7, .int a8, .int 0, .int 0, .int 0, .int 0]))] sz)) 0 0 (va_A [(h0, .inr (10, [.int a4, .int a5, .int a6, .int a7, .int a8, .int 0, .int 0, .int 0, .int 0]))] sz) := by
  refine SP.start (Qf := Q_X10_limit_1 D h0 a0 a1 a2 a3 a4 a5 a6 a7 a8) (by decide) (Nat.le_of_ble_eq_true rfl) ?_
  intro p e s m below meth c ls A hx hb hr hml hown hts hlocks hname hA hP hK hD hE hl hS
  have hown : s.vm.findClass RX10 = some m.cls := hown
  have hl : lv_has ls 5 [(0, .ref h0), (1, .int a0), (2, .int a1), (3, .int a2), (4, .int a3)] := hl
  refine lv_aload_n hx hb dX10_limit_0 rfl (lv_at hl 0 rfl) ?_
  refine lv_iload_n hx hb dX10_limit_1 rfl (lv_at hl 1 rfl) ?_
  refine va_put (D := D) (ci := 10) (v := .int a0) (ty := .int) (C := RX10) (T := TX10) (N := 9) hx hb hts iX10 tyX10 tyX10_ok nmX10 hown hK hP hD hS 0 rfl rfl 5 (by decide) (hts _ kw351) (fun _ h9 => h9) rfl (tyX10_ok 5 (by decide)) rfl rfl (Nat.le_of_ble_eq_true rfl) dX10_limit_2 (fun H locs hP hD hS => ?_)
  have hP : va_P D vwCl [(h0, .inr (10, [.int a4, .int a5, .int a6, .int a7, .int a8, .int a0, .int 0, .int 0, .int 0]))] H := hP
  have hD : va_D A [(h0, .inr (10, [.int a4, .int a5, .int a6, .int a7, .int a8, .int a0, .int 0, .int 0, .int 0]))] := hD
  refine lv_aload_n hx hb dX10_limit_5 rfl (lv_at hl 0 rfl) ?_
  refine lv_iload_n hx hb dX10_limit_6 rfl (lv_at hl 2 rfl) ?_
  refine va_put (D := D) (ci := 10) (v := .int a1) (ty := .int) (C := RX10) (T := TX10) (N := 9) hx hb hts iX10 tyX10 tyX10_ok nmX10 hown hK hP hD hS 0 rfl rfl 6 (by decide) (hts _ kw352) (fun _ h9 => h9) rfl (tyX10_ok 6 (by decide)) rfl rfl (Nat.le_of_ble_eq_true rfl) dX10_limit_7 (fun H locs hP hD hS => ?_)
  have hP : va_P D vwCl [(h0, .inr (10, [.int a4, .int a5, .int a6, .int a7, .int a8, .int a0, .int a1, .int 0, .int 0]))] H := hP
  have hD : va_D A [(h0, .inr (10, [.int a4, .int a5, .int a6, .int a7, .int a8, .int a0, .int a1, .int 0, .int 0]))] := hD
  refine lv_aload_n hx hb dX10_limit_10 rfl (lv_at hl 0 rfl) ?_
  refine lv_iload_n hx hb dX10_limit_11 rfl (lv_at hl 3 rfl) ?_
  refine va_put (D := D) (ci := 10) (v := .int a2) (ty := .int) (C := RX10) (T := TX10) (N := 9) hx hb hts iX10 tyX10 tyX10_ok nmX10 hown hK hP hD hS 0 rfl rfl 7 (by decide) (hts _ kw353) (fun _ h9 => h9) rfl (tyX10_ok 7 (by decide)) rfl rfl (Nat.le_of_ble_eq_true rfl) dX10_limit_12 (fun H locs hP hD hS => ?_)
  have hP : va_P D vwCl [(h0, .inr (10, [.int a4, .int a5, .int a6, .int a7, .int a8, .int a0, .int a1, .int a2, .int 0]))] H := hP
  have hD : va_D A [(h0, .inr (10, [.int a4, .int a5, .int a6, .int a7, .int a8, .int a0, .int a1, .int a2, .int 0]))] := hD
  refine lv_aload_n hx hb dX10_limit_15 rfl (lv_at hl 0 rfl) ?_
  refine lv_iload hx hb dX10_limit_16 (lv_at hl 4 rfl) ?_
  refine va_put (D := D) (ci := 10) (v := .int a3) (ty := .int) (C := RX10) (T := TX10) (N := 9) hx hb hts iX10 tyX10 tyX10_ok nmX10 hown hK hP hD hS 0 rfl rfl 8 (by decide) (hts _ kw354) (fun _ h9 => h9) rfl (tyX10_ok 8 (by decide)) rfl rfl (Nat.le_of_ble_eq_true rfl) dX10_limit_18 (fun H locs hP hD hS => ?_)
  have hP : va_P D vwCl [(h0, .inr (10, [.int a4, .int a5, .int a6, .int a7, .int a8, .int a0, .int a1, .int a2, .int a3]))] H := hP
  have hD : va_D A [(h0, .inr (10, [.int a4, .int a5, .int a6, .int a7, .int a8, .int a0, .int a1, .int a2, .int a3]))] := hD
  exact q_vret () hx hb hr hlocks hP hK hD hS [0] [] rfl rfl rfl dX10_limit_21 (Nat.le_of_ble_eq_true rfl) (Nat.le_of_ble_eq_true rfl)
abbrev w_X11_zone_1 (h0 h1 h2 h3 h4 h5 h6 h7 h8 h9 h10 : Nat) (k0 : ClassId) (a0 a1 a2 a3 a4 a5 : Int32) (u : Nat) : va_W := [(h0, .inr (11, [.int 0, .ref h2, .ref h3, .ref h4, .int 0, .ref h1, .int 1, .ref h5, .ref h6, .ref h7, .ref h8, .int 0, .ref h9, .int (-1), .ref h10])), (h1, .inl (k0, 10, .inr (.inr (.inr (.inr (va_up (fun _ => none) 0 (some u))))))), (u, .inr (10, [.int a5, .int (if a1 - a1 / 24 * 24 < a0 - a0 / 24 * 24 then a1 - a1 / 24 * 24 else a0 - a0 / 24 * 24), .int (if a0 - a0 / 24 * 24 < a1 - a1 / 24 * 24 then a1 - a1 / 24 * 24 else a0 - a0 / 24 * 24), .int (if a1 / 24 < a0 / 24 then a1 / 24 else a0 / 24), .int (if a0 / 24 < a1 / 24 then a1 / 24 else a0 / 24), .int (a2 / 10), .int (a2 - a2 / 10 * 10), .int a3, .int a4]))]
abbrev t_X11_zone_1 (u : Nat) : List (ClassId × FieldType) := []
abbrev Q_X11_zone_1 (D : va_G) (h0 h1 h2 h3 h4 h5 h6 h7 h8 h9 h10 : Nat) (k0 : ClassId) (a0 a1 a2 a3 a4 a5 : Int32) (A : Nat → Prop) : Array Value → State → Outcome → State → Prop := QW (.returned (some (.int 0))) D (w_X11_zone_1 h0 h1 h2 h3 h4 h5 h6 h7 h8 h9 h10 k0 a0 a1 a2 a3 a4 a5) t_X11_zone_1 A
set_option maxHeartbeats 4000000 in
set_option maxRecDepth 100000 in
theorem c_X11_zone_1 (l : Launch) (D : va_G) (h0 h1 h2 h3 h4 h5 h6 h7 h8 h9 h10 : Nat) (k0 : ClassId) (a0 a1 a2 a3 a4 a5 : Int32) (sz : Nat) (v0 : pIn a0 0 575) (v1 : pIn a1 0 575) (v2 : pIn a2 0 66) (v3 : pOrd a2) (v4 : pTop a2) (v5 : pIn a3 0 1000) (v6 : pIn a4 a3 1000) (v7 : pIn a5 1 100) : Met l yX11_zone (.code yX11_zone cX11_zone 10 (some .int) :: wT) ({ frames := 2, cells := 1, slots := 9, locals := 37 } : Room) (SP D [.ref h0, .int a0, .int a1, .int a2, .int a3, .int a4, .int a5] [(h0, .inr (11, [.int 0, .ref h2, .ref h3, .ref h4, .int 0, .ref h1, .int 0, .ref h5, .ref h6, .ref h7, .ref h8, .int 0, .ref h9, .int (-1), .ref h10])), (h1, .inl (k0, 10, .inr (.inr (.inr (.inr (fun _ => none))))))] [(k0, .object "BalloonHouse$Zone")] sz) (Q_X11_zone_1 D h0 h1 h2 h3 h4 h5 h6 h7 h8 h9 h10 k0 a0 a1 a2 a3 a4 a5 (va_A [(h0, .inr (11, [.int 0, .ref h2, .ref h3, .ref h4, .int 0, .ref h1, .int 0, .ref h5, .ref h6, .ref h7, .ref h8, .int 0, .ref h9, .int (-1), .ref h10])), (h1, .inl (k0, 10, .inr (.inr (.inr (.inr (fun _ => none))))))] sz)) 1 9 (va_A [(h0, .inr (11, [.int 0, .ref h2, .ref h3, .ref h4, .int 0, .ref h1, .int 0, .ref h5, .ref h6, .ref h7, .ref h8, .int 0, .ref h9, .int (-1), .ref h10])), (h1, .inl (k0, 10, .inr (.inr (.inr (.inr (fun _ => none))))))] sz) := by
  refine SP.start (Qf := Q_X11_zone_1 D h0 h1 h2 h3 h4 h5 h6 h7 h8 h9 h10 k0 a0 a1 a2 a3 a4 a5) (by decide) (Nat.le_of_ble_eq_true rfl) ?_
  intro p e s m below meth c ls A hx hb hr hml hown hts hlocks hname hA hP hK hD hE hl hS
  have hown : s.vm.findClass RX11 = some m.cls := hown
  have hl : lv_has ls 10 [(0, .ref h0), (1, .int a0), (2, .int a1), (3, .int a2), (4, .int a3), (5, .int a4), (6, .int a5)] := hl
  refine lv_iload_n hx hb dX11_zone_0 rfl (lv_at hl 1 rfl) ?_
  refine lv_iconst (v := 0) hx hb dX11_zone_1 (by decide) ?_
  refine lv_sipush (v := 575) hx hb dX11_zone_2 (by decide +kernel) ?_
  refine q_runP (va_runS (As := [.int a0, .int 0, .int 575]) (rest := []) ⟨hx, hb, hml, hown, hts⟩ (c_isWithin l a0 0 575) (cwS 3 hts (gTS kw4 kw5 kw6 kw3) rfl rfl rfl hd1 ⟨(Nat.le_of_ble_eq_true rfl), (Nat.le_of_ble_eq_true rfl)⟩) preEq rfl rfl hl.1 rfl (lv_room (Nat.le_of_ble_eq_true rfl)) dX11_zone_5 ⟨(Nat.le_of_ble_eq_true rfl), (Nat.le_of_ble_eq_true rfl)⟩) ?_
  refine lv_if_eq (tgt := 36) hx hb dX11_zone_8 (by decide) (fun c9 => absurd v0 (bz_n c9)) (fun _ => ?_)
  refine lv_iload_n hx hb dX11_zone_11 rfl (lv_at hl 2 rfl) ?_
  refine lv_iconst (v := 0) hx hb dX11_zone_12 (by decide) ?_
  refine lv_sipush (v := 575) hx hb dX11_zone_13 (by decide +kernel) ?_
  refine q_runP (va_runS (As := [.int a1, .int 0, .int 575]) (rest := []) ⟨hx, hb, hml, hown, hts⟩ (c_isWithin l a1 0 575) (cwS 3 hts (gTS kw4 kw5 kw6 kw3) rfl rfl rfl hd1 ⟨(Nat.le_of_ble_eq_true rfl), (Nat.le_of_ble_eq_true rfl)⟩) preEq rfl rfl hl.1 rfl (lv_room (Nat.le_of_ble_eq_true rfl)) dX11_zone_16 ⟨(Nat.le_of_ble_eq_true rfl), (Nat.le_of_ble_eq_true rfl)⟩) ?_
  refine lv_if_eq (tgt := 36) hx hb dX11_zone_19 (by decide) (fun c9 => absurd v1 (bz_n c9)) (fun _ => ?_)
  refine lv_iload_n hx hb dX11_zone_22 rfl (lv_at hl 3 rfl) ?_
  refine lv_iconst (v := 0) hx hb dX11_zone_23 (by decide) ?_
  refine lv_bipush (v := 66) hx hb dX11_zone_24 (by decide) ?_
  refine q_runP (va_runS (As := [.int a2, .int 0, .int 66]) (rest := []) ⟨hx, hb, hml, hown, hts⟩ (c_isWithin l a2 0 66) (cwS 3 hts (gTS kw4 kw5 kw6 kw3) rfl rfl rfl hd1 ⟨(Nat.le_of_ble_eq_true rfl), (Nat.le_of_ble_eq_true rfl)⟩) preEq rfl rfl hl.1 rfl (lv_room (Nat.le_of_ble_eq_true rfl)) dX11_zone_26 ⟨(Nat.le_of_ble_eq_true rfl), (Nat.le_of_ble_eq_true rfl)⟩) ?_
  refine lv_if_eq (tgt := 36) hx hb dX11_zone_29 (by decide) (fun c9 => absurd v2 (bz_n c9)) (fun _ => ?_)
  refine lv_iconst (v := 1) hx hb dX11_zone_32 (by decide) ?_
  refine lv_goto (tgt := 37) hx hb dX11_zone_33 (by decide) ?_
  refine q_runPv (va_runS (As := [.int 1]) (rest := []) ⟨hx, hb, hml, hown, hts⟩ (c_require_1 l) (cwS 1 hts (gTS kw242 kw243 kw244 kw3) rfl rfl rfl hd14 ⟨(Nat.le_of_ble_eq_true rfl), (Nat.le_of_ble_eq_true rfl)⟩) preEq rfl rfl hl.1 rfl (lv_room (Nat.le_of_ble_eq_true rfl)) dX11_zone_37 ⟨(Nat.le_of_ble_eq_true rfl), (Nat.le_of_ble_eq_true rfl)⟩) ?_
  refine lv_iload_n hx hb dX11_zone_40 rfl (lv_at hl 3 rfl) ?_
  refine lv_bipush (v := 10) hx hb dX11_zone_41 (by decide) ?_
  refine lv_idiv hx hb dX11_zone_43 (by decide) ?_
  refine lv_istore (lv' := [(7, .int (a2 / 10)), (0, .ref h0), (1, .int a0), (2, .int a1), (3, .int a2), (4, .int a3), (5, .int a4), (6, .int a5)]) hx hb dX11_zone_44 hl (by decide) rfl (fun ls hl => ?_)
  refine lv_iload_n hx hb dX11_zone_46 rfl (lv_at hl 4 rfl) ?_
  refine lv_bipush (v := 10) hx hb dX11_zone_47 (by decide) ?_
  refine lv_irem hx hb dX11_zone_49 (by decide) ?_
  refine lv_istore (lv' := [(8, .int (a2 - a2 / 10 * 10)), (7, .int (a2 / 10)), (0, .ref h0), (1, .int a0), (2, .int a1), (3, .int a2), (4, .int a3), (5, .int a4), (6, .int a5)]) hx hb dX11_zone_50 hl (by decide) rfl (fun ls hl => ?_)
  refine lv_iload hx hb dX11_zone_52 (lv_at hl 1 rfl) ?_
  refine lv_iload hx hb dX11_zone_54 (lv_at hl 0 rfl) ?_
  refine lv_icmp_gt (tgt := 70) hx hb dX11_zone_56 (by decide) (fun c9 => absurd c9 v3) (fun _ => ?_)
  refine lv_iload hx hb dX11_zone_59 (lv_at hl 0 rfl) ?_
  refine lv_bipush (v := 6) hx hb dX11_zone_61 (by decide) ?_
  refine lv_icmp_gt (tgt := 70) hx hb dX11_zone_63 (by decide) (fun c9 => absurd c9 v4) (fun _ => ?_)
  refine lv_iconst (v := 1) hx hb dX11_zone_66 (by decide) ?_
  refine lv_goto (tgt := 71) hx hb dX11_zone_67 (by decide) ?_
  refine q_runPv (va_runS (As := [.int 1]) (rest := []) ⟨hx, hb, hml, hown, hts⟩ (c_require_1 l) (cwS 1 hts (gTS kw242 kw243 kw244 kw3) rfl rfl rfl hd14 ⟨(Nat.le_of_ble_eq_true rfl), (Nat.le_of_ble_eq_true rfl)⟩) preEq rfl rfl hl.1 rfl (lv_room (Nat.le_of_ble_eq_true rfl)) dX11_zone_71 ⟨(Nat.le_of_ble_eq_true rfl), (Nat.le_of_ble_eq_true rfl)⟩) ?_
  refine lv_iload hx hb dX11_zone_74 (lv_at hl 6 rfl) ?_
  refine lv_iconst (v := 0) hx hb dX11_zone_76 (by decide) ?_
  refine lv_sipush (v := 1000) hx hb dX11_zone_77 (by decide +kernel) ?_
  refine q_runP (va_runS (As := [.int a3, .int 0, .int 1000]) (rest := []) ⟨hx, hb, hml, hown, hts⟩ (c_isWithin l a3 0 1000) (cwS 3 hts (gTS kw4 kw5 kw6 kw3) rfl rfl rfl hd1 ⟨(Nat.le_of_ble_eq_true rfl), (Nat.le_of_ble_eq_true rfl)⟩) preEq rfl rfl hl.1 rfl (lv_room (Nat.le_of_ble_eq_true rfl)) dX11_zone_80 ⟨(Nat.le_of_ble_eq_true rfl), (Nat.le_of_ble_eq_true rfl)⟩) ?_
  refine lv_if_eq (tgt := 114) hx hb dX11_zone_83 (by decide) (fun c9 => absurd v5 (bz_n c9)) (fun _ => ?_)
  refine lv_iload hx hb dX11_zone_86 (lv_at hl 7 rfl) ?_
  refine lv_iload hx hb dX11_zone_88 (lv_at hl 6 rfl) ?_
  refine lv_sipush (v := 1000) hx hb dX11_zone_90 (by decide +kernel) ?_
  refine q_runP (va_runS (As := [.int a4, .int a3, .int 1000]) (rest := []) ⟨hx, hb, hml, hown, hts⟩ (c_isWithin l a4 a3 1000) (cwS 3 hts (gTS kw4 kw5 kw6 kw3) rfl rfl rfl hd1 ⟨(Nat.le_of_ble_eq_true rfl), (Nat.le_of_ble_eq_true rfl)⟩) preEq rfl rfl hl.1 rfl (lv_room (Nat.le_of_ble_eq_true rfl)) dX11_zone_93 ⟨(Nat.le_of_ble_eq_true rfl), (Nat.le_of_ble_eq_true rfl)⟩) ?_
  refine lv_if_eq (tgt := 114) hx hb dX11_zone_96 (by decide) (fun c9 => absurd v6 (bz_n c9)) (fun _ => ?_)
  refine lv_iload hx hb dX11_zone_99 (lv_at hl 8 rfl) ?_
  refine lv_iconst (v := 1) hx hb dX11_zone_101 (by decide) ?_
  refine lv_bipush (v := 100) hx hb dX11_zone_102 (by decide) ?_
  refine q_runP (va_runS (As := [.int a5, .int 1, .int 100]) (rest := []) ⟨hx, hb, hml, hown, hts⟩ (c_isWithin l a5 1 100) (cwS 3 hts (gTS kw4 kw5 kw6 kw3) rfl rfl rfl hd1 ⟨(Nat.le_of_ble_eq_true rfl), (Nat.le_of_ble_eq_true rfl)⟩) preEq rfl rfl hl.1 rfl (lv_room (Nat.le_of_ble_eq_true rfl)) dX11_zone_104 ⟨(Nat.le_of_ble_eq_true rfl), (Nat.le_of_ble_eq_true rfl)⟩) ?_
  refine lv_if_eq (tgt := 114) hx hb dX11_zone_107 (by decide) (fun c9 => absurd v7 (bz_n c9)) (fun _ => ?_)
  refine lv_iconst (v := 1) hx hb dX11_zone_110 (by decide) ?_
  refine lv_goto (tgt := 115) hx hb dX11_zone_111 (by decide) ?_
  refine q_runPv (va_runS (As := [.int 1]) (rest := []) ⟨hx, hb, hml, hown, hts⟩ (c_require_1 l) (cwS 1 hts (gTS kw242 kw243 kw244 kw3) rfl rfl rfl hd14 ⟨(Nat.le_of_ble_eq_true rfl), (Nat.le_of_ble_eq_true rfl)⟩) preEq rfl rfl hl.1 rfl (lv_room (Nat.le_of_ble_eq_true rfl)) dX11_zone_115 ⟨(Nat.le_of_ble_eq_true rfl), (Nat.le_of_ble_eq_true rfl)⟩) ?_
  refine lv_aload_n hx hb dX11_zone_118 rfl (lv_at hl 2 rfl) ?_
  refine va_get (D := D) (ci := 11) (v := .int 0) (C := RX11) (T := TX11) (N := 15) hx hb hts iX11 hown hK hP 0 rfl rfl 6 (by decide) (hts _ kw60) (fun _ h9 => h9) rfl dX11_zone_119 ?_
  refine lv_bipush (v := 10) hx hb dX11_zone_122 (by decide) ?_
  refine lv_icmp_lt (tgt := 129) hx hb dX11_zone_124 (by decide) (fun _ => ?_) (fun c9 => absurd (by decide +kernel) c9)
  refine va_new (ci := 10) (fs := [.int 0, .int 0, .int 0, .int 0, .int 0, .int 0, .int 0, .int 0, .int 0]) (C := RX10) (T := TX10) (N := 9) hx hb hts iX10 tyX10 tyX10_ok hown (hts _ kw58) (hts _ kw348) (hts _ kw349) hK hP hD hS hA rfl fsX10 (Nat.le_of_ble_eq_true rfl) (Nat.le_of_ble_eq_true rfl) dX11_zone_129 (fun q1 H hP hD hS => ?_)
  have hP : va_P D vwCl [(h0, .inr (11, [.int 0, .ref h2, .ref h3, .ref h4, .int 0, .ref h1, .int 0, .ref h5, .ref h6, .ref h7, .ref h8, .int 0, .ref h9, .int (-1), .ref h10])), (h1, .inl (k0, 10, .inr (.inr (.inr (.inr (fun _ => none)))))), (q1, .inr (10, [.int 0, .int 0, .int 0, .int 0, .int 0, .int 0, .int 0, .int 0, .int 0]))] H := hP
  have hD : va_D A [(h0, .inr (11, [.int 0, .ref h2, .ref h3, .ref h4, .int 0, .ref h1, .int 0, .ref h5, .ref h6, .ref h7, .ref h8, .int 0, .ref h9, .int (-1), .ref h10])), (h1, .inl (k0, 10, .inr (.inr (.inr (.inr (fun _ => none)))))), (q1, .inr (10, [.int 0, .int 0, .int 0, .int 0, .int 0, .int 0, .int 0, .int 0, .int 0]))] := hD
  refine W.cs (cells' := 1) (slots' := 9) rfl rfl ?_
  refine lv_dup hx hb dX11_zone_132 rfl ?_
  refine lv_iload_n hx hb dX11_zone_133 rfl (lv_at hl 3 rfl) ?_
  refine lv_iload_n hx hb dX11_zone_134 rfl (lv_at hl 4 rfl) ?_
  refine lv_iload hx hb dX11_zone_135 (lv_at hl 8 rfl) ?_
  refine q_run (D := D) (w1 := w_X10_init_1 q1 a0 a1 a5) (t1 := t_X10_init_1) (o := none) (ws := [(h0, .inr (11, [.int 0, .ref h2, .ref h3, .ref h4, .int 0, .ref h1, .int 0, .ref h5, .ref h6, .ref h7, .ref h8, .int 0, .ref h9, .int (-1), .ref h10])), (h1, .inl (k0, 10, .inr (.inr (.inr (.inr (fun _ => none)))))), (q1, .inr (10, [.int 0, .int 0, .int 0, .int 0, .int 0, .int 0, .int 0, .int 0, .int 0]))]) (wc := [(q1, .inr (10, [.int 0, .int 0, .int 0, .int 0, .int 0, .int 0, .int 0, .int 0, .int 0]))]) (wr := [(h0, .inr (11, [.int 0, .ref h2, .ref h3, .ref h4, .int 0, .ref h1, .int 0, .ref h5, .ref h6, .ref h7, .ref h8, .int 0, .ref h9, .int (-1), .ref h10])), (h1, .inl (k0, 10, .inr (.inr (.inr (.inr (fun _ => none))))))]) (va_runI (b := q1) (As := [.int a0, .int a1, .int a5]) (rest := [.ref q1]) ⟨hx, hb, hml, hown, hts⟩ (c_X10_init_1 l D q1 a0 a1 a5 H.size) (cwI 3 hts (gT kw367) rfl rfl rfl (hts _ kw349) (hts _ kw368) (hts _ kw369) rfl hd33 ⟨(Nat.le_of_ble_eq_true rfl), (Nat.le_of_ble_eq_true rfl)⟩) (SP.pre hP hK hD hE [2] [] rfl rfl rfl) rfl rfl hl.1 rfl (lv_room (Nat.le_of_ble_eq_true rfl)) dX11_zone_137 ⟨(Nat.le_of_ble_eq_true rfl), (Nat.le_of_ble_eq_true rfl)⟩) hP hK hD hS hA [2] [0, 1] rfl rfl rfl (by decide) (fun u H locs hP hK hD hS => ?_)
  refine W.eq (g2 := F0 m 140 ls [.ref q1]) rfl ?_
  refine W.cs (cells' := 1) (slots' := 9) rfl rfl ?_
  have hP : va_P D vwCl [(h0, .inr (11, [.int 0, .ref h2, .ref h3, .ref h4, .int 0, .ref h1, .int 0, .ref h5, .ref h6, .ref h7, .ref h8, .int 0, .ref h9, .int (-1), .ref h10])), (h1, .inl (k0, 10, .inr (.inr (.inr (.inr (fun _ => none)))))), (q1, .inr (10, [.int a5, .int (if a1 - a1 / 24 * 24 < a0 - a0 / 24 * 24 then a1 - a1 / 24 * 24 else a0 - a0 / 24 * 24), .int (if a0 - a0 / 24 * 24 < a1 - a1 / 24 * 24 then a1 - a1 / 24 * 24 else a0 - a0 / 24 * 24), .int (if a1 / 24 < a0 / 24 then a1 / 24 else a0 / 24), .int (if a0 / 24 < a1 / 24 then a1 / 24 else a0 / 24), .int 0, .int 0, .int 0, .int 0]))] H := hP
  have hD : va_D A [(h0, .inr (11, [.int 0, .ref h2, .ref h3, .ref h4, .int 0, .ref h1, .int 0, .ref h5, .ref h6, .ref h7, .ref h8, .int 0, .ref h9, .int (-1), .ref h10])), (h1, .inl (k0, 10, .inr (.inr (.inr (.inr (fun _ => none)))))), (q1, .inr (10, [.int a5, .int (if a1 - a1 / 24 * 24 < a0 - a0 / 24 * 24 then a1 - a1 / 24 * 24 else a0 - a0 / 24 * 24), .int (if a0 - a0 / 24 * 24 < a1 - a1 / 24 * 24 then a1 - a1 / 24 * 24 else a0 - a0 / 24 * 24), .int (if a1 / 24 < a0 / 24 then a1 / 24 else a0 / 24), .int (if a0 / 24 < a1 / 24 then a1 / 24 else a0 / 24), .int 0, .int 0, .int 0, .int 0]))] := hD
  have hK : va_K D vwCl [(k0, .object "BalloonHouse$Zone")] s := hK
  refine lv_astore (lv' := [(9, .ref q1), (8, .int (a2 - a2 / 10 * 10)), (7, .int (a2 / 10)), (0, .ref h0), (1, .int a0), (2, .int a1), (3, .int a2), (4, .int a3), (5, .int a4), (6, .int a5)]) hx hb dX11_zone_140 hl (by decide) rfl (fun ls hl => ?_)
  refine lv_aload hx hb dX11_zone_142 (lv_at hl 0 rfl) ?_
  refine lv_iload hx hb dX11_zone_144 (lv_at hl 2 rfl) ?_
  refine lv_iload hx hb dX11_zone_146 (lv_at hl 1 rfl) ?_
  refine lv_iload hx hb dX11_zone_148 (lv_at hl 7 rfl) ?_
  refine lv_iload hx hb dX11_zone_150 (lv_at hl 8 rfl) ?_
  refine q_run (D := D) (w1 := w_X10_limit_1 q1 (a2 / 10) (a2 - a2 / 10 * 10) a3 a4 a5 (if a1 - a1 / 24 * 24 < a0 - a0 / 24 * 24 then a1 - a1 / 24 * 24 else a0 - a0 / 24 * 24) (if a0 - a0 / 24 * 24 < a1 - a1 / 24 * 24 then a1 - a1 / 24 * 24 else a0 - a0 / 24 * 24) (if a1 / 24 < a0 / 24 then a1 / 24 else a0 / 24) (if a0 / 24 < a1 / 24 then a1 / 24 else a0 / 24)) (t1 := t_X10_limit_1) (o := none) (ws := [(h0, .inr (11, [.int 0, .ref h2, .ref h3, .ref h4, .int 0, .ref h1, .int 0, .ref h5, .ref h6, .ref h7, .ref h8, .int 0, .ref h9, .int (-1), .ref h10])), (h1, .inl (k0, 10, .inr (.inr (.inr (.inr (fun _ => none)))))), (q1, .inr (10, [.int a5, .int (if a1 - a1 / 24 * 24 < a0 - a0 / 24 * 24 then a1 - a1 / 24 * 24 else a0 - a0 / 24 * 24), .int (if a0 - a0 / 24 * 24 < a1 - a1 / 24 * 24 then a1 - a1 / 24 * 24 else a0 - a0 / 24 * 24), .int (if a1 / 24 < a0 / 24 then a1 / 24 else a0 / 24), .int (if a0 / 24 < a1 / 24 then a1 / 24 else a0 / 24), .int 0, .int 0, .int 0, .int 0]))]) (wc := [(q1, .inr (10, [.int a5, .int (if a1 - a1 / 24 * 24 < a0 - a0 / 24 * 24 then a1 - a1 / 24 * 24 else a0 - a0 / 24 * 24), .int (if a0 - a0 / 24 * 24 < a1 - a1 / 24 * 24 then a1 - a1 / 24 * 24 else a0 - a0 / 24 * 24), .int (if a1 / 24 < a0 / 24 then a1 / 24 else a0 / 24), .int (if a0 / 24 < a1 / 24 then a1 / 24 else a0 / 24), .int 0, .int 0, .int 0, .int 0]))]) (wr := [(h0, .inr (11, [.int 0, .ref h2, .ref h3, .ref h4, .int 0, .ref h1, .int 0, .ref h5, .ref h6, .ref h7, .ref h8, .int 0, .ref h9, .int (-1), .ref h10])), (h1, .inl (k0, 10, .inr (.inr (.inr (.inr (fun _ => none))))))]) (va_runV (C := RX10) (b := q1) (As := [.int (a2 / 10), .int (a2 - a2 / 10 * 10), .int a3, .int a4]) (rest := []) ⟨hx, hb, hml, hown, hts⟩ (c_X10_limit_1 l D q1 (a2 / 10) (a2 - a2 / 10 * 10) a3 a4 a5 (if a1 - a1 / 24 * 24 < a0 - a0 / 24 * 24 then a1 - a1 / 24 * 24 else a0 - a0 / 24 * 24) (if a0 - a0 / 24 * 24 < a1 - a1 / 24 * 24 then a1 - a1 / 24 * 24 else a0 - a0 / 24 * 24) (if a1 / 24 < a0 / 24 then a1 / 24 else a0 / 24) (if a0 / 24 < a1 / 24 then a1 / 24 else a0 / 24) H.size) (cwV 4 hts (gTV kw370 kw371 kw372 kw373 kw349) rfl rfl rfl hd34 ⟨(Nat.le_of_ble_eq_true rfl), (Nat.le_of_ble_eq_true rfl)⟩) ⟨SP.blind, q_recv (ws := [(h0, .inr (11, [.int 0, .ref h2, .ref h3, .ref h4, .int 0, .ref h1, .int 0, .ref h5, .ref h6, .ref h7, .ref h8, .int 0, .ref h9, .int (-1), .ref h10])), (h1, .inl (k0, 10, .inr (.inr (.inr (.inr (fun _ => none)))))), (q1, .inr (10, [.int a5, .int (if a1 - a1 / 24 * 24 < a0 - a0 / 24 * 24 then a1 - a1 / 24 * 24 else a0 - a0 / 24 * 24), .int (if a0 - a0 / 24 * 24 < a1 - a1 / 24 * 24 then a1 - a1 / 24 * 24 else a0 - a0 / 24 * 24), .int (if a1 / 24 < a0 / 24 then a1 / 24 else a0 / 24), .int (if a0 / 24 < a1 / 24 then a1 / 24 else a0 / 24), .int 0, .int 0, .int 0, .int 0]))]) (wc := []) (r := (RX10, TX10, 9)) (ci := 10) (i := 2) hP hK rfl rfl, (SP.pre hP hK hD hE [2] [] rfl rfl rfl).2⟩ rfl rfl hl.1 rfl (lv_room (Nat.le_of_ble_eq_true rfl)) dX11_zone_152 ⟨(Nat.le_of_ble_eq_true rfl), (Nat.le_of_ble_eq_true rfl)⟩) hP hK hD hS hA [2] [0, 1] rfl rfl rfl (by decide) (fun u H locs hP hK hD hS => ?_)
  refine W.eq (g2 := F0 m 155 ls []) rfl ?_
  refine W.cs (cells' := 1) (slots' := 9) rfl rfl ?_
  have hP : va_P D vwCl [(h0, .inr (11, [.int 0, .ref h2, .ref h3, .ref h4, .int 0, .ref h1, .int 0, .ref h5, .ref h6, .ref h7, .ref h8, .int 0, .ref h9, .int (-1), .ref h10])), (h1, .inl (k0, 10, .inr (.inr (.inr (.inr (fun _ => none)))))), (q1, .inr (10, [.int a5, .int (if a1 - a1 / 24 * 24 < a0 - a0 / 24 * 24 then a1 - a1 / 24 * 24 else a0 - a0 / 24 * 24), .int (if a0 - a0 / 24 * 24 < a1 - a1 / 24 * 24 then a1 - a1 / 24 * 24 else a0 - a0 / 24 * 24), .int (if a1 / 24 < a0 / 24 then a1 / 24 else a0 / 24), .int (if a0 / 24 < a1 / 24 then a1 / 24 else a0 / 24), .int (a2 / 10), .int (a2 - a2 / 10 * 10), .int a3, .int a4]))] H := hP
  have hD : va_D A [(h0, .inr (11, [.int 0, .ref h2, .ref h3, .ref h4, .int 0, .ref h1, .int 0, .ref h5, .ref h6, .ref h7, .ref h8, .int 0, .ref h9, .int (-1), .ref h10])), (h1, .inl (k0, 10, .inr (.inr (.inr (.inr (fun _ => none)))))), (q1, .inr (10, [.int a5, .int (if a1 - a1 / 24 * 24 < a0 - a0 / 24 * 24 then a1 - a1 / 24 * 24 else a0 - a0 / 24 * 24), .int (if a0 - a0 / 24 * 24 < a1 - a1 / 24 * 24 then a1 - a1 / 24 * 24 else a0 - a0 / 24 * 24), .int (if a1 / 24 < a0 / 24 then a1 / 24 else a0 / 24), .int (if a0 / 24 < a1 / 24 then a1 / 24 else a0 / 24), .int (a2 / 10), .int (a2 - a2 / 10 * 10), .int a3, .int a4]))] := hD
  have hK : va_K D vwCl [(k0, .object "BalloonHouse$Zone")] s := hK
  refine lv_aload_n hx hb dX11_zone_155 rfl (lv_at hl 3 rfl) ?_
  refine va_get (D := D) (ci := 11) (v := .ref h1) (C := RX11) (T := TX11) (N := 15) hx hb hts iX11 hown hK hP 0 rfl rfl 5 (by decide) (hts _ kw59) (fun _ h9 => h9) rfl dX11_zone_156 ?_
  refine lv_aload_n hx hb dX11_zone_159 rfl (lv_at hl 3 rfl) ?_
  refine va_get (D := D) (ci := 11) (v := .int 0) (C := RX11) (T := TX11) (N := 15) hx hb hts iX11 hown hK hP 0 rfl rfl 6 (by decide) (hts _ kw60) (fun _ h9 => h9) rfl dX11_zone_160 ?_
  refine lv_aload hx hb dX11_zone_163 (lv_at hl 0 rfl) ?_
  refine va_astq hx hb hK hP hD hS 1 0 2 10 rfl rfl rfl rfl (vin (by decide)) dX11_zone_165 (fun H locs hP hD hS => ?_)
  have hP : va_P D vwCl [(h0, .inr (11, [.int 0, .ref h2, .ref h3, .ref h4, .int 0, .ref h1, .int 0, .ref h5, .ref h6, .ref h7, .ref h8, .int 0, .ref h9, .int (-1), .ref h10])), (h1, .inl (k0, 10, .inr (.inr (.inr (.inr (va_up (fun _ => none) 0 (some q1))))))), (q1, .inr (10, [.int a5, .int (if a1 - a1 / 24 * 24 < a0 - a0 / 24 * 24 then a1 - a1 / 24 * 24 else a0 - a0 / 24 * 24), .int (if a0 - a0 / 24 * 24 < a1 - a1 / 24 * 24 then a1 - a1 / 24 * 24 else a0 - a0 / 24 * 24), .int (if a1 / 24 < a0 / 24 then a1 / 24 else a0 / 24), .int (if a0 / 24 < a1 / 24 then a1 / 24 else a0 / 24), .int (a2 / 10), .int (a2 - a2 / 10 * 10), .int a3, .int a4]))] H := hP
  have hD : va_D A [(h0, .inr (11, [.int 0, .ref h2, .ref h3, .ref h4, .int 0, .ref h1, .int 0, .ref h5, .ref h6, .ref h7, .ref h8, .int 0, .ref h9, .int (-1), .ref h10])), (h1, .inl (k0, 10, .inr (.inr (.inr (.inr (va_up (fun _ => none) 0 (some q1))))))), (q1, .inr (10, [.int a5, .int (if a1 - a1 / 24 * 24 < a0 - a0 / 24 * 24 then a1 - a1 / 24 * 24 else a0 - a0 / 24 * 24), .int (if a0 - a0 / 24 * 24 < a1 - a1 / 24 * 24 then a1 - a1 / 24 * 24 else a0 - a0 / 24 * 24), .int (if a1 / 24 < a0 / 24 then a1 / 24 else a0 / 24), .int (if a0 / 24 < a1 / 24 then a1 / 24 else a0 / 24), .int (a2 / 10), .int (a2 - a2 / 10 * 10), .int a3, .int a4]))] := hD
  refine lv_aload_n hx hb dX11_zone_166 rfl (lv_at hl 3 rfl) ?_
  refine lv_dup hx hb dX11_zone_167 rfl ?_
  refine va_get (D := D) (ci := 11) (v := .int 0) (C := RX11) (T := TX11) (N := 15) hx hb hts iX11 hown hK hP 0 rfl rfl 6 (by decide) (hts _ kw60) (fun _ h9 => h9) rfl dX11_zone_168 ?_
  refine lv_iconst (v := 1) hx hb dX11_zone_171 (by decide) ?_
  refine lv_iadd hx hb dX11_zone_172 ?_
  refine lv_lit (v := 1) (by decide +kernel) ?_
  refine va_put (D := D) (ci := 11) (v := .int 1) (ty := .int) (C := RX11) (T := TX11) (N := 15) hx hb hts iX11 tyX11 tyX11_ok nmX11 hown hK hP hD hS 0 rfl rfl 6 (by decide) (hts _ kw60) (fun _ h9 => h9) rfl (tyX11_ok 6 (by decide)) rfl rfl (Nat.le_of_ble_eq_true rfl) dX11_zone_173 (fun H locs hP hD hS => ?_)
  have hP : va_P D vwCl [(h0, .inr (11, [.int 0, .ref h2, .ref h3, .ref h4, .int 0, .ref h1, .int 1, .ref h5, .ref h6, .ref h7, .ref h8, .int 0, .ref h9, .int (-1), .ref h10])), (h1, .inl (k0, 10, .inr (.inr (.inr (.inr (va_up (fun _ => none) 0 (some q1))))))), (q1, .inr (10, [.int a5, .int (if a1 - a1 / 24 * 24 < a0 - a0 / 24 * 24 then a1 - a1 / 24 * 24 else a0 - a0 / 24 * 24), .int (if a0 - a0 / 24 * 24 < a1 - a1 / 24 * 24 then a1 - a1 / 24 * 24 else a0 - a0 / 24 * 24), .int (if a1 / 24 < a0 / 24 then a1 / 24 else a0 / 24), .int (if a0 / 24 < a1 / 24 then a1 / 24 else a0 / 24), .int (a2 / 10), .int (a2 - a2 / 10 * 10), .int a3, .int a4]))] H := hP
  have hD : va_D A [(h0, .inr (11, [.int 0, .ref h2, .ref h3, .ref h4, .int 0, .ref h1, .int 1, .ref h5, .ref h6, .ref h7, .ref h8, .int 0, .ref h9, .int (-1), .ref h10])), (h1, .inl (k0, 10, .inr (.inr (.inr (.inr (va_up (fun _ => none) 0 (some q1))))))), (q1, .inr (10, [.int a5, .int (if a1 - a1 / 24 * 24 < a0 - a0 / 24 * 24 then a1 - a1 / 24 * 24 else a0 - a0 / 24 * 24), .int (if a0 - a0 / 24 * 24 < a1 - a1 / 24 * 24 then a1 - a1 / 24 * 24 else a0 - a0 / 24 * 24), .int (if a1 / 24 < a0 / 24 then a1 / 24 else a0 / 24), .int (if a0 / 24 < a1 / 24 then a1 / 24 else a0 / 24), .int (a2 / 10), .int (a2 - a2 / 10 * 10), .int a3, .int a4]))] := hD
  refine lv_aload_n hx hb dX11_zone_176 rfl (lv_at hl 3 rfl) ?_
  refine va_get (D := D) (ci := 11) (v := .int 1) (C := RX11) (T := TX11) (N := 15) hx hb hts iX11 hown hK hP 0 rfl rfl 6 (by decide) (hts _ kw60) (fun _ h9 => h9) rfl dX11_zone_177 ?_
  refine lv_iconst (v := 1) hx hb dX11_zone_180 (by decide) ?_
  refine lv_isub hx hb dX11_zone_181 ?_
  refine lv_lit (v := 0) (by decide +kernel) ?_
  exact q_iret q1 hx hb hr hlocks hP hK hD hS [0, 1, 2] [] rfl rfl rfl dX11_zone_182 (Nat.le_of_ble_eq_true rfl) (Nat.le_of_ble_eq_true rfl)
set_option maxHeartbeats 4000000 in
set_option maxRecDepth 100000 in
theorem c_X11_zone_2 (l : Launch) (hst : l.stackTraces = false) (D : va_G) (h0 : Nat) (a0 a1 a2 a3 a4 a5 : Int32) (sz : Nat) (v0 : ¬ vZone a0 a1 a2 a3 a4 a5) : vx_Met l yX11_zone (.code yX11_zone cX11_zone 10 (some .int) :: wT) ({ frames := 7, cells := 1, slots := 6, locals := 103 } : Room) (SPx D [.ref h0, .int a0, .int a1, .int a2, .int a3, .int a4, .int a5] [] [] sz) QNo (XQ "java/lang/IllegalArgumentException" (va_A [] sz)) 1 6 (va_A [] sz) := by
  refine SPx.start (by decide) (Nat.le_of_ble_eq_true rfl) ?_
  intro p e s m below meth c ls A hx hb hr hml hown hts hlocks htab hA hP hK hD hE hZ hl hS
  have hown : s.vm.findClass RX11 = some m.cls := hown
  have hl : lv_has ls 10 [(0, .ref h0), (1, .int a0), (2, .int a1), (3, .int a2), (4, .int a3), (5, .int a4), (6, .int a5)] := hl
  refine lv_iload_n hx hb dX11_zone_0 rfl (lv_at hl 1 rfl) ?_
  refine lv_iconst (v := 0) hx hb dX11_zone_1 (by decide) ?_
  refine lv_sipush (v := 575) hx hb dX11_zone_2 (by decide +kernel) ?_
  refine q_runP (va_runS (As := [.int a0, .int 0, .int 575]) (rest := []) ⟨hx, hb, hml, hown, hts⟩ (c_isWithin l a0 0 575) (cwS 3 hts (gTS kw4 kw5 kw6 kw3) rfl rfl rfl hd1 ⟨(Nat.le_of_ble_eq_true rfl), (Nat.le_of_ble_eq_true rfl)⟩) preEq rfl rfl hl.1 rfl (lv_room (Nat.le_of_ble_eq_true rfl)) dX11_zone_5 ⟨(Nat.le_of_ble_eq_true rfl), (Nat.le_of_ble_eq_true rfl)⟩) ?_
  refine lv_if_eq (tgt := 36) hx hb dX11_zone_8 (by decide) (fun c1 => ?_) (fun c1 => ?_)
  · have c1 := bz_n c1
    refine lv_iconst (v := 0) hx hb dX11_zone_36 (by decide) ?_
    exact q_xout (B := va_A [] s.heap.size) (vx_runS (As := [.int 0]) (rest := []) ⟨hx, hb, hml, hown, hts⟩ (c_X11_require_1 l hst D s.heap.size) (cwS 1 hts (gTS kw242 kw243 kw244 kw3) rfl rfl rfl hd14 ⟨(Nat.le_of_ble_eq_true rfl), (Nat.le_of_ble_eq_true rfl)⟩) (SPx.pre hP hK hD hE hZ hS hA [] [] rfl rfl rfl) rfl rfl hl.1 rfl (lv_room (Nat.le_of_ble_eq_true rfl)) dX11_zone_37 ⟨(Nat.le_of_ble_eq_true rfl), (Nat.le_of_ble_eq_true rfl)⟩) hS (va_free (wc := []) hD hS hA [] rfl) htab hlocks (Nat.le_of_ble_eq_true rfl) (Nat.le_of_ble_eq_true rfl)
  · have c1 := bz_p c1
    refine lv_iload_n hx hb dX11_zone_11 rfl (lv_at hl 2 rfl) ?_
    refine lv_iconst (v := 0) hx hb dX11_zone_12 (by decide) ?_
    refine lv_sipush (v := 575) hx hb dX11_zone_13 (by decide +kernel) ?_
    refine q_runP (va_runS (As := [.int a1, .int 0, .int 575]) (rest := []) ⟨hx, hb, hml, hown, hts⟩ (c_isWithin l a1 0 575) (cwS 3 hts (gTS kw4 kw5 kw6 kw3) rfl rfl rfl hd1 ⟨(Nat.le_of_ble_eq_true rfl), (Nat.le_of_ble_eq_true rfl)⟩) preEq rfl rfl hl.1 rfl (lv_room (Nat.le_of_ble_eq_true rfl)) dX11_zone_16 ⟨(Nat.le_of_ble_eq_true rfl), (Nat.le_of_ble_eq_true rfl)⟩) ?_
    refine lv_if_eq (tgt := 36) hx hb dX11_zone_19 (by decide) (fun c2 => ?_) (fun c2 => ?_)
    · have c2 := bz_n c2
      refine lv_iconst (v := 0) hx hb dX11_zone_36 (by decide) ?_
      exact q_xout (B := va_A [] s.heap.size) (vx_runS (As := [.int 0]) (rest := []) ⟨hx, hb, hml, hown, hts⟩ (c_X11_require_1 l hst D s.heap.size) (cwS 1 hts (gTS kw242 kw243 kw244 kw3) rfl rfl rfl hd14 ⟨(Nat.le_of_ble_eq_true rfl), (Nat.le_of_ble_eq_true rfl)⟩) (SPx.pre hP hK hD hE hZ hS hA [] [] rfl rfl rfl) rfl rfl hl.1 rfl (lv_room (Nat.le_of_ble_eq_true rfl)) dX11_zone_37 ⟨(Nat.le_of_ble_eq_true rfl), (Nat.le_of_ble_eq_true rfl)⟩) hS (va_free (wc := []) hD hS hA [] rfl) htab hlocks (Nat.le_of_ble_eq_true rfl) (Nat.le_of_ble_eq_true rfl)
    · have c2 := bz_p c2
      refine lv_iload_n hx hb dX11_zone_22 rfl (lv_at hl 3 rfl) ?_
      refine lv_iconst (v := 0) hx hb dX11_zone_23 (by decide) ?_
      refine lv_bipush (v := 66) hx hb dX11_zone_24 (by decide) ?_
      refine q_runP (va_runS (As := [.int a2, .int 0, .int 66]) (rest := []) ⟨hx, hb, hml, hown, hts⟩ (c_isWithin l a2 0 66) (cwS 3 hts (gTS kw4 kw5 kw6 kw3) rfl rfl rfl hd1 ⟨(Nat.le_of_ble_eq_true rfl), (Nat.le_of_ble_eq_true rfl)⟩) preEq rfl rfl hl.1 rfl (lv_room (Nat.le_of_ble_eq_true rfl)) dX11_zone_26 ⟨(Nat.le_of_ble_eq_true rfl), (Nat.le_of_ble_eq_true rfl)⟩) ?_
      refine lv_if_eq (tgt := 36) hx hb dX11_zone_29 (by decide) (fun c3 => ?_) (fun c3 => ?_)
      · have c3 := bz_n c3
        refine lv_iconst (v := 0) hx hb dX11_zone_36 (by decide) ?_
        exact q_xout (B := va_A [] s.heap.size) (vx_runS (As := [.int 0]) (rest := []) ⟨hx, hb, hml, hown, hts⟩ (c_X11_require_1 l hst D s.heap.size) (cwS 1 hts (gTS kw242 kw243 kw244 kw3) rfl rfl rfl hd14 ⟨(Nat.le_of_ble_eq_true rfl), (Nat.le_of_ble_eq_true rfl)⟩) (SPx.pre hP hK hD hE hZ hS hA [] [] rfl rfl rfl) rfl rfl hl.1 rfl (lv_room (Nat.le_of_ble_eq_true rfl)) dX11_zone_37 ⟨(Nat.le_of_ble_eq_true rfl), (Nat.le_of_ble_eq_true rfl)⟩) hS (va_free (wc := []) hD hS hA [] rfl) htab hlocks (Nat.le_of_ble_eq_true rfl) (Nat.le_of_ble_eq_true rfl)
      · have c3 := bz_p c3
        refine lv_iconst (v := 1) hx hb dX11_zone_32 (by decide) ?_
        refine lv_goto (tgt := 37) hx hb dX11_zone_33 (by decide) ?_
        refine q_runPv (va_runS (As := [.int 1]) (rest := []) ⟨hx, hb, hml, hown, hts⟩ (c_require_1 l) (cwS 1 hts (gTS kw242 kw243 kw244 kw3) rfl rfl rfl hd14 ⟨(Nat.le_of_ble_eq_true rfl), (Nat.le_of_ble_eq_true rfl)⟩) preEq rfl rfl hl.1 rfl (lv_room (Nat.le_of_ble_eq_true rfl)) dX11_zone_37 ⟨(Nat.le_of_ble_eq_true rfl), (Nat.le_of_ble_eq_true rfl)⟩) ?_
        refine lv_iload_n hx hb dX11_zone_40 rfl (lv_at hl 3 rfl) ?_
        refine lv_bipush (v := 10) hx hb dX11_zone_41 (by decide) ?_
        refine lv_idiv hx hb dX11_zone_43 (by decide) ?_
        refine lv_istore (lv' := [(7, .int (a2 / 10)), (0, .ref h0), (1, .int a0), (2, .int a1), (3, .int a2), (4, .int a3), (5, .int a4), (6, .int a5)]) hx hb dX11_zone_44 hl (by decide) rfl (fun ls hl => ?_)
        refine lv_iload_n hx hb dX11_zone_46 rfl (lv_at hl 4 rfl) ?_
        refine lv_bipush (v := 10) hx hb dX11_zone_47 (by decide) ?_
        refine lv_irem hx hb dX11_zone_49 (by decide) ?_
        refine lv_istore (lv' := [(8, .int (a2 - a2 / 10 * 10)), (7, .int (a2 / 10)), (0, .ref h0), (1, .int a0), (2, .int a1), (3, .int a2), (4, .int a3), (5, .int a4), (6, .int a5)]) hx hb dX11_zone_50 hl (by decide) rfl (fun ls hl => ?_)
        refine lv_iload hx hb dX11_zone_52 (lv_at hl 1 rfl) ?_
        refine lv_iload hx hb dX11_zone_54 (lv_at hl 0 rfl) ?_
        refine lv_icmp_gt (tgt := 70) hx hb dX11_zone_56 (by decide) (fun c4 => ?_) (fun c4 => ?_)
        · have c4 : ¬ pOrd a2 := fun h9 => h9 c4
          refine lv_iconst (v := 0) hx hb dX11_zone_70 (by decide) ?_
          exact q_xout (B := va_A [] s.heap.size) (vx_runS (As := [.int 0]) (rest := []) ⟨hx, hb, hml, hown, hts⟩ (c_X11_require_1 l hst D s.heap.size) (cwS 1 hts (gTS kw242 kw243 kw244 kw3) rfl rfl rfl hd14 ⟨(Nat.le_of_ble_eq_true rfl), (Nat.le_of_ble_eq_true rfl)⟩) (SPx.pre hP hK hD hE hZ hS hA [] [] rfl rfl rfl) rfl rfl hl.1 rfl (lv_room (Nat.le_of_ble_eq_true rfl)) dX11_zone_71 ⟨(Nat.le_of_ble_eq_true rfl), (Nat.le_of_ble_eq_true rfl)⟩) hS (va_free (wc := []) hD hS hA [] rfl) htab hlocks (Nat.le_of_ble_eq_true rfl) (Nat.le_of_ble_eq_true rfl)
        · have c4 : pOrd a2 := c4
          refine lv_iload hx hb dX11_zone_59 (lv_at hl 0 rfl) ?_
          refine lv_bipush (v := 6) hx hb dX11_zone_61 (by decide) ?_
          refine lv_icmp_gt (tgt := 70) hx hb dX11_zone_63 (by decide) (fun c5 => ?_) (fun c5 => ?_)
          · have c5 : ¬ pTop a2 := fun h9 => h9 c5
            refine lv_iconst (v := 0) hx hb dX11_zone_70 (by decide) ?_
            exact q_xout (B := va_A [] s.heap.size) (vx_runS (As := [.int 0]) (rest := []) ⟨hx, hb, hml, hown, hts⟩ (c_X11_require_1 l hst D s.heap.size) (cwS 1 hts (gTS kw242 kw243 kw244 kw3) rfl rfl rfl hd14 ⟨(Nat.le_of_ble_eq_true rfl), (Nat.le_of_ble_eq_true rfl)⟩) (SPx.pre hP hK hD hE hZ hS hA [] [] rfl rfl rfl) rfl rfl hl.1 rfl (lv_room (Nat.le_of_ble_eq_true rfl)) dX11_zone_71 ⟨(Nat.le_of_ble_eq_true rfl), (Nat.le_of_ble_eq_true rfl)⟩) hS (va_free (wc := []) hD hS hA [] rfl) htab hlocks (Nat.le_of_ble_eq_true rfl) (Nat.le_of_ble_eq_true rfl)
          · have c5 : pTop a2 := c5
            refine lv_iconst (v := 1) hx hb dX11_zone_66 (by decide) ?_
            refine lv_goto (tgt := 71) hx hb dX11_zone_67 (by decide) ?_
            refine q_runPv (va_runS (As := [.int 1]) (rest := []) ⟨hx, hb, hml, hown, hts⟩ (c_require_1 l) (cwS 1 hts (gTS kw242 kw243 kw244 kw3) rfl rfl rfl hd14 ⟨(Nat.le_of_ble_eq_true rfl), (Nat.le_of_ble_eq_true rfl)⟩) preEq rfl rfl hl.1 rfl (lv_room (Nat.le_of_ble_eq_true rfl)) dX11_zone_71 ⟨(Nat.le_of_ble_eq_true rfl), (Nat.le_of_ble_eq_true rfl)⟩) ?_
            refine lv_iload hx hb dX11_zone_74 (lv_at hl 6 rfl) ?_
            refine lv_iconst (v := 0) hx hb dX11_zone_76 (by decide) ?_
            refine lv_sipush (v := 1000) hx hb dX11_zone_77 (by decide +kernel) ?_
            refine q_runP (va_runS (As := [.int a3, .int 0, .int 1000]) (rest := []) ⟨hx, hb, hml, hown, hts⟩ (c_isWithin l a3 0 1000) (cwS 3 hts (gTS kw4 kw5 kw6 kw3) rfl rfl rfl hd1 ⟨(Nat.le_of_ble_eq_true rfl), (Nat.le_of_ble_eq_true rfl)⟩) preEq rfl rfl hl.1 rfl (lv_room (Nat.le_of_ble_eq_true rfl)) dX11_zone_80 ⟨(Nat.le_of_ble_eq_true rfl), (Nat.le_of_ble_eq_true rfl)⟩) ?_
            refine lv_if_eq (tgt := 114) hx hb dX11_zone_83 (by decide) (fun c6 => ?_) (fun c6 => ?_)
            · have c6 := bz_n c6
              refine lv_iconst (v := 0) hx hb dX11_zone_114 (by decide) ?_
              exact q_xout (B := va_A [] s.heap.size) (vx_runS (As := [.int 0]) (rest := []) ⟨hx, hb, hml, hown, hts⟩ (c_X11_require_1 l hst D s.heap.size) (cwS 1 hts (gTS kw242 kw243 kw244 kw3) rfl rfl rfl hd14 ⟨(Nat.le_of_ble_eq_true rfl), (Nat.le_of_ble_eq_true rfl)⟩) (SPx.pre hP hK hD hE hZ hS hA [] [] rfl rfl rfl) rfl rfl hl.1 rfl (lv_room (Nat.le_of_ble_eq_true rfl)) dX11_zone_115 ⟨(Nat.le_of_ble_eq_true rfl), (Nat.le_of_ble_eq_true rfl)⟩) hS (va_free (wc := []) hD hS hA [] rfl) htab hlocks (Nat.le_of_ble_eq_true rfl) (Nat.le_of_ble_eq_true rfl)
            · have c6 := bz_p c6
              refine lv_iload hx hb dX11_zone_86 (lv_at hl 7 rfl) ?_
              refine lv_iload hx hb dX11_zone_88 (lv_at hl 6 rfl) ?_
              refine lv_sipush (v := 1000) hx hb dX11_zone_90 (by decide +kernel) ?_
              refine q_runP (va_runS (As := [.int a4, .int a3, .int 1000]) (rest := []) ⟨hx, hb, hml, hown, hts⟩ (c_isWithin l a4 a3 1000) (cwS 3 hts (gTS kw4 kw5 kw6 kw3) rfl rfl rfl hd1 ⟨(Nat.le_of_ble_eq_true rfl), (Nat.le_of_ble_eq_true rfl)⟩) preEq rfl rfl hl.1 rfl (lv_room (Nat.le_of_ble_eq_true rfl)) dX11_zone_93 ⟨(Nat.le_of_ble_eq_true rfl), (Nat.le_of_ble_eq_true rfl)⟩) ?_
              refine lv_if_eq (tgt := 114) hx hb dX11_zone_96 (by decide) (fun c7 => ?_) (fun c7 => ?_)
              · have c7 := bz_n c7
                refine lv_iconst (v := 0) hx hb dX11_zone_114 (by decide) ?_
                exact q_xout (B := va_A [] s.heap.size) (vx_runS (As := [.int 0]) (rest := []) ⟨hx, hb, hml, hown, hts⟩ (c_X11_require_1 l hst D s.heap.size) (cwS 1 hts (gTS kw242 kw243 kw244 kw3) rfl rfl rfl hd14 ⟨(Nat.le_of_ble_eq_true rfl), (Nat.le_of_ble_eq_true rfl)⟩) (SPx.pre hP hK hD hE hZ hS hA [] [] rfl rfl rfl) rfl rfl hl.1 rfl (lv_room (Nat.le_of_ble_eq_true rfl)) dX11_zone_115 ⟨(Nat.le_of_ble_eq_true rfl), (Nat.le_of_ble_eq_true rfl)⟩) hS (va_free (wc := []) hD hS hA [] rfl) htab hlocks (Nat.le_of_ble_eq_true rfl) (Nat.le_of_ble_eq_true rfl)
              · have c7 := bz_p c7
                refine lv_iload hx hb dX11_zone_99 (lv_at hl 8 rfl) ?_
                refine lv_iconst (v := 1) hx hb dX11_zone_101 (by decide) ?_
                refine lv_bipush (v := 100) hx hb dX11_zone_102 (by decide) ?_
                refine q_runP (va_runS (As := [.int a5, .int 1, .int 100]) (rest := []) ⟨hx, hb, hml, hown, hts⟩ (c_isWithin l a5 1 100) (cwS 3 hts (gTS kw4 kw5 kw6 kw3) rfl rfl rfl hd1 ⟨(Nat.le_of_ble_eq_true rfl), (Nat.le_of_ble_eq_true rfl)⟩) preEq rfl rfl hl.1 rfl (lv_room (Nat.le_of_ble_eq_true rfl)) dX11_zone_104 ⟨(Nat.le_of_ble_eq_true rfl), (Nat.le_of_ble_eq_true rfl)⟩) ?_
                refine lv_if_eq (tgt := 114) hx hb dX11_zone_107 (by decide) (fun c8 => ?_) (fun c8 => ?_)
                · have c8 := bz_n c8
                  refine lv_iconst (v := 0) hx hb dX11_zone_114 (by decide) ?_
                  exact q_xout (B := va_A [] s.heap.size) (vx_runS (As := [.int 0]) (rest := []) ⟨hx, hb, hml, hown, hts⟩ (c_X11_require_1 l hst D s.heap.size) (cwS 1 hts (gTS kw242 kw243 kw244 kw3) rfl rfl rfl hd14 ⟨(Nat.le_of_ble_eq_true rfl), (Nat.le_of_ble_eq_true rfl)⟩) (SPx.pre hP hK hD hE hZ hS hA [] [] rfl rfl rfl) rfl rfl hl.1 rfl (lv_room (Nat.le_of_ble_eq_true rfl)) dX11_zone_115 ⟨(Nat.le_of_ble_eq_true rfl), (Nat.le_of_ble_eq_true rfl)⟩) hS (va_free (wc := []) hD hS hA [] rfl) htab hlocks (Nat.le_of_ble_eq_true rfl) (Nat.le_of_ble_eq_true rfl)
                · have c8 := bz_p c8
                  exact absurd (show vZone a0 a1 a2 a3 a4 a5 from ⟨c1, c2, c3, c4, c5, c6, c7, c8⟩) v0
