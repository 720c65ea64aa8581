set_option maxHeartbeats 4000000 in
theorem c_isWithin (l : Launch) (a0 a1 a2 : Int32) : Met l yX11_isWithin (.code yX11_isWithin cX11_isWithin 3 (some .boolean) :: wT) ({ frames := 0, cells := 0, slots := 0, locals := 0 } : Room) (fun v _ => v = ([.int a0, .int a1, .int a2] : List Value).toArray) (QcRead (bz (pIn a0 a1 a2))) 0 0 (fun _ => False) := by
  refine PS.start (by decide) (Nat.le_of_ble_eq_true rfl) ?_
  intro p e s m below meth c ls hx hb hr hml hown hts hlocks hl
  have hown : s.vm.findClass RX11 = some m.cls := hown
  have hl : lv_has ls 3 [(0, .int a0), (1, .int a1), (2, .int a2)] := hl
  refine lv_iload_n hx hb dX11_isWithin_0 rfl (lv_at hl 0 rfl) ?_
  refine lv_iload_n hx hb dX11_isWithin_1 rfl (lv_at hl 1 rfl) ?_
  refine lv_icmp_lt (tgt := 14) hx hb dX11_isWithin_2 (by decide) (fun c1 => ?_) (fun c1 => ?_)
  · refine lv_iconst (v := 0) hx hb dX11_isWithin_14 (by decide) ?_
    exact r_zretE ((bz_f (fun q : pIn a0 a1 a2 => absurd c1 (Int32.not_lt.mpr q.1))).symm) hx hb hr hlocks rfl dX11_isWithin_15
  · refine lv_iload_n hx hb dX11_isWithin_5 rfl (lv_at hl 0 rfl) ?_
    refine lv_iload_n hx hb dX11_isWithin_6 rfl (lv_at hl 2 rfl) ?_
    refine lv_icmp_gt (tgt := 14) hx hb dX11_isWithin_7 (by decide) (fun c2 => ?_) (fun c2 => ?_)
    · refine lv_iconst (v := 0) hx hb dX11_isWithin_14 (by decide) ?_
      exact r_zretE ((bz_f (fun q : pIn a0 a1 a2 => absurd c2 (Int32.not_lt.mpr q.2))).symm) hx hb hr hlocks rfl dX11_isWithin_15
    · refine lv_iconst (v := 1) hx hb dX11_isWithin_10 (by decide) ?_
      refine lv_goto (tgt := 15) hx hb dX11_isWithin_11 (by decide) ?_
      exact r_zretE ((bz_t (show pIn a0 a1 a2 from ⟨Int32.not_lt.mp c1, Int32.not_lt.mp c2⟩)).symm) hx hb hr hlocks rfl dX11_isWithin_15
set_option maxHeartbeats 4000000 in
theorem c_isHour (l : Launch) (a0 : Int32) : Met l yX11_isHour (.code yX11_isHour cX11_isHour 1 (some .boolean) :: wT) ({ frames := 0, cells := 0, slots := 0, locals := 0 } : Room) (fun v _ => v = ([.int a0] : List Value).toArray) (QcRead (bz (pHour a0))) 0 0 (fun _ => False) := by
  refine PS.start (by decide) (Nat.le_of_ble_eq_true rfl) ?_
  intro p e s m below meth c ls hx hb hr hml hown hts hlocks hl
  have hown : s.vm.findClass RX11 = some m.cls := hown
  have hl : lv_has ls 1 [(0, .int a0)] := hl
  refine lv_iload_n hx hb dX11_isHour_0 rfl (lv_at hl 0 rfl) ?_
  refine lv_if_lt (tgt := 15) hx hb dX11_isHour_1 (by decide) (fun c1 => ?_) (fun c1 => ?_)
  · refine lv_iconst (v := 0) hx hb dX11_isHour_15 (by decide) ?_
    exact r_zretE ((bz_f (fun q : pHour a0 => absurd c1 (Int32.not_lt.mpr q.1))).symm) hx hb hr hlocks rfl dX11_isHour_16
  · refine lv_iload_n hx hb dX11_isHour_4 rfl (lv_at hl 0 rfl) ?_
    refine lv_sipush (v := 1000) hx hb dX11_isHour_5 (by decide +kernel) ?_
    refine lv_icmp_ge (tgt := 15) hx hb dX11_isHour_8 (by decide) (fun c2 => ?_) (fun c2 => ?_)
    · refine lv_iconst (v := 0) hx hb dX11_isHour_15 (by decide) ?_
      exact r_zretE ((bz_f (fun q : pHour a0 => absurd c2 (Int32.not_le.mpr q.2))).symm) hx hb hr hlocks rfl dX11_isHour_16
    · refine lv_iconst (v := 1) hx hb dX11_isHour_11 (by decide) ?_
      refine lv_goto (tgt := 16) hx hb dX11_isHour_12 (by decide) ?_
      exact r_zretE ((bz_t (show pHour a0 from ⟨Int32.not_lt.mp c1, Int32.not_le.mp c2⟩)).symm) hx hb hr hlocks rfl dX11_isHour_16
set_option maxHeartbeats 4000000 in
theorem c_areHours (l : Launch) (a0 a1 : Int32) : Met l yX11_areHours (.code yX11_areHours cX11_areHours 2 (some .boolean) :: wT) ({ frames := 1, cells := 0, slots := 0, locals := 22 } : Room) (fun v _ => v = ([.int a0, .int a1] : List Value).toArray) (QcRead (bz (pHours a0 a1))) 0 0 (fun _ => False) := by
  refine PS.start (by decide) (Nat.le_of_ble_eq_true rfl) ?_
  intro p e s m below meth c ls hx hb hr hml hown hts hlocks hl
  have hown : s.vm.findClass RX11 = some m.cls := hown
  have hl : lv_has ls 2 [(0, .int a0), (1, .int a1)] := hl
  refine lv_iload_n hx hb dX11_areHours_0 rfl (lv_at hl 0 rfl) ?_
  refine q_runP (va_runS (As := [.int a0]) (rest := []) ⟨hx, hb, hml, hown, hts⟩ (c_isHour l a0) (cwS 1 hts (gTS kw0 kw1 kw2 kw3) rfl rfl rfl hd0 ⟨(Nat.le_of_ble_eq_true rfl), (Nat.le_of_ble_eq_true rfl)⟩) preEq rfl rfl hl.1 rfl (lv_room (Nat.le_of_ble_eq_true rfl)) dX11_areHours_1 ⟨(Nat.le_of_ble_eq_true rfl), (Nat.le_of_ble_eq_true rfl)⟩) ?_
  refine lv_if_eq (tgt := 24) hx hb dX11_areHours_4 (by decide) (fun c1 => ?_) (fun c1 => ?_)
  · have c1 := bz_n c1
    refine lv_iconst (v := 0) hx hb dX11_areHours_24 (by decide) ?_
    exact r_zretE ((bz_f (fun q : pHours a0 a1 => c1 q.1)).symm) hx hb hr hlocks rfl dX11_areHours_25
  · have c1 := bz_p c1
    refine lv_iload_n hx hb dX11_areHours_7 rfl (lv_at hl 1 rfl) ?_
    refine lv_iconst (v := 1) hx hb dX11_areHours_8 (by decide) ?_
    refine lv_sipush (v := 1000) hx hb dX11_areHours_9 (by decide +kernel) ?_
    refine lv_iload_n hx hb dX11_areHours_12 rfl (lv_at hl 0 rfl) ?_
    refine lv_isub hx hb dX11_areHours_13 ?_
    refine q_runP (va_runS (As := [.int a1, .int 1, .int (1000 - a0)]) (rest := []) ⟨hx, hb, hml, hown, hts⟩ (c_isWithin l a1 1 (1000 - a0)) (cwS 3 hts (gTS kw4 kw5 kw6 kw3) rfl rfl rfl hd1 ⟨(Nat.le_of_ble_eq_true rfl), (Nat.le_of_ble_eq_true rfl)⟩) preEq rfl rfl hl.1 rfl (lv_room (Nat.le_of_ble_eq_true rfl)) dX11_areHours_14 ⟨(Nat.le_of_ble_eq_true rfl), (Nat.le_of_ble_eq_true rfl)⟩) ?_
    refine lv_if_eq (tgt := 24) hx hb dX11_areHours_17 (by decide) (fun c2 => ?_) (fun c2 => ?_)
    · have c2 := bz_n c2
      refine lv_iconst (v := 0) hx hb dX11_areHours_24 (by decide) ?_
      exact r_zretE ((bz_f (fun q : pHours a0 a1 => c2 q.2)).symm) hx hb hr hlocks rfl dX11_areHours_25
    · have c2 := bz_p c2
      refine lv_iconst (v := 1) hx hb dX11_areHours_20 (by decide) ?_
      refine lv_goto (tgt := 25) hx hb dX11_areHours_21 (by decide) ?_
      exact r_zretE ((bz_t (show pHours a0 a1 from ⟨c1, c2⟩)).symm) hx hb hr hlocks rfl dX11_areHours_25
set_option maxHeartbeats 4000000 in
theorem c_isSquare (l : Launch) (a0 a1 : Int32) : Met l yX11_isSquare (.code yX11_isSquare cX11_isSquare 2 (some .boolean) :: wT) ({ frames := 1, cells := 0, slots := 0, locals := 22 } : Room) (fun v _ => v = ([.int a0, .int a1] : List Value).toArray) (QcRead (bz (pSq a0 a1))) 0 0 (fun _ => False) := by
  refine PS.start (by decide) (Nat.le_of_ble_eq_true rfl) ?_
  intro p e s m below meth c ls hx hb hr hml hown hts hlocks hl
  have hown : s.vm.findClass RX11 = some m.cls := hown
  have hl : lv_has ls 2 [(0, .int a0), (1, .int a1)] := hl
  refine lv_iload_n hx hb dX11_isSquare_0 rfl (lv_at hl 0 rfl) ?_
  refine lv_iconst (v := 0) hx hb dX11_isSquare_1 (by decide) ?_
  refine lv_bipush (v := 23) hx hb dX11_isSquare_2 (by decide) ?_
  refine q_runP (va_runS (As := [.int a0, .int 0, .int 23]) (rest := []) ⟨hx, hb, hml, hown, hts⟩ (c_isWithin l a0 0 23) (cwS 3 hts (gTS kw4 kw5 kw6 kw3) rfl rfl rfl hd1 ⟨(Nat.le_of_ble_eq_true rfl), (Nat.le_of_ble_eq_true rfl)⟩) preEq rfl rfl hl.1 rfl (lv_room (Nat.le_of_ble_eq_true rfl)) dX11_isSquare_4 ⟨(Nat.le_of_ble_eq_true rfl), (Nat.le_of_ble_eq_true rfl)⟩) ?_
  refine lv_if_eq (tgt := 24) hx hb dX11_isSquare_7 (by decide) (fun c1 => ?_) (fun c1 => ?_)
  · have c1 := bz_n c1
    refine lv_iconst (v := 0) hx hb dX11_isSquare_24 (by decide) ?_
    exact r_zretE ((bz_f (fun q : pSq a0 a1 => c1 q.1)).symm) hx hb hr hlocks rfl dX11_isSquare_25
  · have c1 := bz_p c1
    refine lv_iload_n hx hb dX11_isSquare_10 rfl (lv_at hl 1 rfl) ?_
    refine lv_iconst (v := 0) hx hb dX11_isSquare_11 (by decide) ?_
    refine lv_bipush (v := 23) hx hb dX11_isSquare_12 (by decide) ?_
    refine q_runP (va_runS (As := [.int a1, .int 0, .int 23]) (rest := []) ⟨hx, hb, hml, hown, hts⟩ (c_isWithin l a1 0 23) (cwS 3 hts (gTS kw4 kw5 kw6 kw3) rfl rfl rfl hd1 ⟨(Nat.le_of_ble_eq_true rfl), (Nat.le_of_ble_eq_true rfl)⟩) preEq rfl rfl hl.1 rfl (lv_room (Nat.le_of_ble_eq_true rfl)) dX11_isSquare_14 ⟨(Nat.le_of_ble_eq_true rfl), (Nat.le_of_ble_eq_true rfl)⟩) ?_
    refine lv_if_eq (tgt := 24) hx hb dX11_isSquare_17 (by decide) (fun c2 => ?_) (fun c2 => ?_)
    · have c2 := bz_n c2
      refine lv_iconst (v := 0) hx hb dX11_isSquare_24 (by decide) ?_
      exact r_zretE ((bz_f (fun q : pSq a0 a1 => c2 q.2)).symm) hx hb hr hlocks rfl dX11_isSquare_25
    · have c2 := bz_p c2
      refine lv_iconst (v := 1) hx hb dX11_isSquare_20 (by decide) ?_
      refine lv_goto (tgt := 25) hx hb dX11_isSquare_21 (by decide) ?_
      exact r_zretE ((bz_t (show pSq a0 a1 from ⟨c1, c2⟩)).symm) hx hb hr hlocks rfl dX11_isSquare_25
set_option maxHeartbeats 4000000 in
theorem c_isAir (l : Launch) (a0 a1 : Int32) : Met l yX11_isAir (.code yX11_isAir cX11_isAir 2 (some .boolean) :: wT) ({ frames := 1, cells := 0, slots := 0, locals := 22 } : Room) (fun v _ => v = ([.int a0, .int a1] : List Value).toArray) (QcRead (bz (pAir a0 a1))) 0 0 (fun _ => False) := by
  refine PS.start (by decide) (Nat.le_of_ble_eq_true rfl) ?_
  intro p e s m below meth c ls hx hb hr hml hown hts hlocks hl
  have hown : s.vm.findClass RX11 = some m.cls := hown
  have hl : lv_has ls 2 [(0, .int a0), (1, .int a1)] := hl
  refine lv_iload_n hx hb dX11_isAir_0 rfl (lv_at hl 0 rfl) ?_
  refine lv_iconst (v := 1) hx hb dX11_isAir_1 (by decide) ?_
  refine lv_bipush (v := 6) hx hb dX11_isAir_2 (by decide) ?_
  refine q_runP (va_runS (As := [.int a0, .int 1, .int 6]) (rest := []) ⟨hx, hb, hml, hown, hts⟩ (c_isWithin l a0 1 6) (cwS 3 hts (gTS kw4 kw5 kw6 kw3) rfl rfl rfl hd1 ⟨(Nat.le_of_ble_eq_true rfl), (Nat.le_of_ble_eq_true rfl)⟩) preEq rfl rfl hl.1 rfl (lv_room (Nat.le_of_ble_eq_true rfl)) dX11_isAir_4 ⟨(Nat.le_of_ble_eq_true rfl), (Nat.le_of_ble_eq_true rfl)⟩) ?_
  refine lv_if_eq (tgt := 23) hx hb dX11_isAir_7 (by decide) (fun c1 => ?_) (fun c1 => ?_)
  · have c1 := bz_n c1
    refine lv_iconst (v := 0) hx hb dX11_isAir_23 (by decide) ?_
    exact r_zretE ((bz_f (fun q : pAir a0 a1 => c1 q.1)).symm) hx hb hr hlocks rfl dX11_isAir_24
  · have c1 := bz_p c1
    refine lv_iload_n hx hb dX11_isAir_10 rfl (lv_at hl 1 rfl) ?_
    refine lv_iconst (v := 0) hx hb dX11_isAir_11 (by decide) ?_
    refine lv_iconst (v := 3) hx hb dX11_isAir_12 (by decide) ?_
    refine q_runP (va_runS (As := [.int a1, .int 0, .int 3]) (rest := []) ⟨hx, hb, hml, hown, hts⟩ (c_isWithin l a1 0 3) (cwS 3 hts (gTS kw4 kw5 kw6 kw3) rfl rfl rfl hd1 ⟨(Nat.le_of_ble_eq_true rfl), (Nat.le_of_ble_eq_true rfl)⟩) preEq rfl rfl hl.1 rfl (lv_room (Nat.le_of_ble_eq_true rfl)) dX11_isAir_13 ⟨(Nat.le_of_ble_eq_true rfl), (Nat.le_of_ble_eq_true rfl)⟩) ?_
    refine lv_if_eq (tgt := 23) hx hb dX11_isAir_16 (by decide) (fun c2 => ?_) (fun c2 => ?_)
    · have c2 := bz_n c2
      refine lv_iconst (v := 0) hx hb dX11_isAir_23 (by decide) ?_
      exact r_zretE ((bz_f (fun q : pAir a0 a1 => c2 q.2)).symm) hx hb hr hlocks rfl dX11_isAir_24
    · have c2 := bz_p c2
      refine lv_iconst (v := 1) hx hb dX11_isAir_19 (by decide) ?_
      refine lv_goto (tgt := 24) hx hb dX11_isAir_20 (by decide) ?_
      exact r_zretE ((bz_t (show pAir a0 a1 from ⟨c1, c2⟩)).symm) hx hb hr hlocks rfl dX11_isAir_24
set_option maxHeartbeats 4000000 in
theorem c_arePulls (l : Launch) (a0 a1 : Int32) : Met l yX11_arePulls (.code yX11_arePulls cX11_arePulls 2 (some .boolean) :: wT) ({ frames := 1, cells := 0, slots := 0, locals := 22 } : Room) (fun v _ => v = ([.int a0, .int a1] : List Value).toArray) (QcRead (bz (pPull a0 a1))) 0 0 (fun _ => False) := by
  refine PS.start (by decide) (Nat.le_of_ble_eq_true rfl) ?_
  intro p e s m below meth c ls hx hb hr hml hown hts hlocks hl
  have hown : s.vm.findClass RX11 = some m.cls := hown
  have hl : lv_has ls 2 [(0, .int a0), (1, .int a1)] := hl
  refine lv_iload_n hx hb dX11_arePulls_0 rfl (lv_at hl 0 rfl) ?_
  refine lv_bipush (v := (-3)) hx hb dX11_arePulls_1 (by decide) ?_
  refine lv_iconst (v := 3) hx hb dX11_arePulls_3 (by decide) ?_
  refine q_runP (va_runS (As := [.int a0, .int (-3), .int 3]) (rest := []) ⟨hx, hb, hml, hown, hts⟩ (c_isWithin l a0 (-3) 3) (cwS 3 hts (gTS kw4 kw5 kw6 kw3) rfl rfl rfl hd1 ⟨(Nat.le_of_ble_eq_true rfl), (Nat.le_of_ble_eq_true rfl)⟩) preEq rfl rfl hl.1 rfl (lv_room (Nat.le_of_ble_eq_true rfl)) dX11_arePulls_4 ⟨(Nat.le_of_ble_eq_true rfl), (Nat.le_of_ble_eq_true rfl)⟩) ?_
  refine lv_if_eq (tgt := 24) hx hb dX11_arePulls_7 (by decide) (fun c1 => ?_) (fun c1 => ?_)
  · have c1 := bz_n c1
    refine lv_iconst (v := 0) hx hb dX11_arePulls_24 (by decide) ?_
    exact r_zretE ((bz_f (fun q : pPull a0 a1 => c1 q.1)).symm) hx hb hr hlocks rfl dX11_arePulls_25
  · have c1 := bz_p c1
    refine lv_iload_n hx hb dX11_arePulls_10 rfl (lv_at hl 1 rfl) ?_
    refine lv_bipush (v := (-3)) hx hb dX11_arePulls_11 (by decide) ?_
    refine lv_iconst (v := 3) hx hb dX11_arePulls_13 (by decide) ?_
    refine q_runP (va_runS (As := [.int a1, .int (-3), .int 3]) (rest := []) ⟨hx, hb, hml, hown, hts⟩ (c_isWithin l a1 (-3) 3) (cwS 3 hts (gTS kw4 kw5 kw6 kw3) rfl rfl rfl hd1 ⟨(Nat.le_of_ble_eq_true rfl), (Nat.le_of_ble_eq_true rfl)⟩) preEq rfl rfl hl.1 rfl (lv_room (Nat.le_of_ble_eq_true rfl)) dX11_arePulls_14 ⟨(Nat.le_of_ble_eq_true rfl), (Nat.le_of_ble_eq_true rfl)⟩) ?_
    refine lv_if_eq (tgt := 24) hx hb dX11_arePulls_17 (by decide) (fun c2 => ?_) (fun c2 => ?_)
    · have c2 := bz_n c2
      refine lv_iconst (v := 0) hx hb dX11_arePulls_24 (by decide) ?_
      exact r_zretE ((bz_f (fun q : pPull a0 a1 => c2 q.2)).symm) hx hb hr hlocks rfl dX11_arePulls_25
    · have c2 := bz_p c2
      refine lv_iconst (v := 1) hx hb dX11_arePulls_20 (by decide) ?_
      refine lv_goto (tgt := 25) hx hb dX11_arePulls_21 (by decide) ?_
      exact r_zretE ((bz_t (show pPull a0 a1 from ⟨c1, c2⟩)).symm) hx hb hr hlocks rfl dX11_arePulls_25
set_option maxHeartbeats 4000000 in
theorem c_slotOf (l : Launch) (a0 a1 : Int32) : Met l yX11_slotOf (.code yX11_slotOf cX11_slotOf 2 (some .int) :: wT) ({ frames := 0, cells := 0, slots := 0, locals := 0 } : Room) (fun v _ => v = ([.int a0, .int a1] : List Value).toArray) (QcRead (((a0 - 1) * 4) + a1)) 0 0 (fun _ => False) := by
  refine PS.start (by decide) (Nat.le_of_ble_eq_true rfl) ?_
  intro p e s m below meth c ls hx hb hr hml hown hts hlocks hl
  have hown : s.vm.findClass RX11 = some m.cls := hown
  have hl : lv_has ls 2 [(0, .int a0), (1, .int a1)] := hl
  refine lv_iload_n hx hb dX11_slotOf_0 rfl (lv_at hl 0 rfl) ?_
  refine lv_iconst (v := 1) hx hb dX11_slotOf_1 (by decide) ?_
  refine lv_isub hx hb dX11_slotOf_2 ?_
  refine lv_iconst (v := 4) hx hb dX11_slotOf_3 (by decide) ?_
  refine lv_imul hx hb dX11_slotOf_4 ?_
  refine lv_iload_n hx hb dX11_slotOf_5 rfl (lv_at hl 1 rfl) ?_
  refine lv_iadd hx hb dX11_slotOf_6 ?_
  exact r_iret hx hb hr hlocks dX11_slotOf_7
set_option maxHeartbeats 4000000 in
theorem c_windOf (l : Launch) (a0 a1 : Int32) : Met l yX11_windOf (.code yX11_windOf cX11_windOf 2 (some .int) :: wT) ({ frames := 0, cells := 0, slots := 0, locals := 0 } : Room) (fun v _ => v = ([.int a0, .int a1] : List Value).toArray) (QcRead (((10 * (a0 + 3)) + a1) + 3)) 0 0 (fun _ => False) := by
  refine PS.start (by decide) (Nat.le_of_ble_eq_true rfl) ?_
  intro p e s m below meth c ls hx hb hr hml hown hts hlocks hl
  have hown : s.vm.findClass RX11 = some m.cls := hown
  have hl : lv_has ls 2 [(0, .int a0), (1, .int a1)] := hl
  refine lv_bipush (v := 10) hx hb dX11_windOf_0 (by decide) ?_
  refine lv_iload_n hx hb dX11_windOf_2 rfl (lv_at hl 0 rfl) ?_
  refine lv_iconst (v := 3) hx hb dX11_windOf_3 (by decide) ?_
  refine lv_iadd hx hb dX11_windOf_4 ?_
  refine lv_imul hx hb dX11_windOf_5 ?_
  refine lv_iload_n hx hb dX11_windOf_6 rfl (lv_at hl 1 rfl) ?_
  refine lv_iadd hx hb dX11_windOf_7 ?_
  refine lv_iconst (v := 3) hx hb dX11_windOf_8 (by decide) ?_
  refine lv_iadd hx hb dX11_windOf_9 ?_
  exact r_iret hx hb hr hlocks dX11_windOf_10
set_option maxHeartbeats 4000000 in
theorem m_in (l : Launch) (a0 a1 a2 : Int32) : Met l yX12_in (.code yX12_in cX12_in 3 (some .boolean) :: wT) ({ frames := 0, cells := 0, slots := 0, locals := 0 } : Room) (fun v _ => v = ([.int a0, .int a1, .int a2] : List Value).toArray) (QcRead (bz (pIn a0 a1 a2))) 0 0 (fun _ => False) := by
  refine PS.start (by decide) (Nat.le_of_ble_eq_true rfl) ?_
  intro p e s m below meth c ls hx hb hr hml hown hts hlocks hl
  have hown : s.vm.findClass RX12 = some m.cls := hown
  have hl : lv_has ls 3 [(0, .int a0), (1, .int a1), (2, .int a2)] := hl
  refine lv_iload_n hx hb dX12_in_0 rfl (lv_at hl 0 rfl) ?_
  refine lv_iload_n hx hb dX12_in_1 rfl (lv_at hl 1 rfl) ?_
  refine lv_icmp_lt (tgt := 14) hx hb dX12_in_2 (by decide) (fun c1 => ?_) (fun c1 => ?_)
  · refine lv_iconst (v := 0) hx hb dX12_in_14 (by decide) ?_
    exact r_zretE ((bz_f (fun q : pIn a0 a1 a2 => absurd c1 (Int32.not_lt.mpr q.1))).symm) hx hb hr hlocks rfl dX12_in_15
  · refine lv_iload_n hx hb dX12_in_5 rfl (lv_at hl 0 rfl) ?_
    refine lv_iload_n hx hb dX12_in_6 rfl (lv_at hl 2 rfl) ?_
    refine lv_icmp_gt (tgt := 14) hx hb dX12_in_7 (by decide) (fun c2 => ?_) (fun c2 => ?_)
    · refine lv_iconst (v := 0) hx hb dX12_in_14 (by decide) ?_
      exact r_zretE ((bz_f (fun q : pIn a0 a1 a2 => absurd c2 (Int32.not_lt.mpr q.2))).symm) hx hb hr hlocks rfl dX12_in_15
    · refine lv_iconst (v := 1) hx hb dX12_in_10 (by decide) ?_
      refine lv_goto (tgt := 15) hx hb dX12_in_11 (by decide) ?_
      exact r_zretE ((bz_t (show pIn a0 a1 a2 from ⟨Int32.not_lt.mp c1, Int32.not_lt.mp c2⟩)).symm) hx hb hr hlocks rfl dX12_in_15
set_option maxHeartbeats 4000000 in
theorem m_cell (l : Launch) (a0 a1 a2 : Int32) : Met l yX12_cell (.code yX12_cell cX12_cell 3 (some .int) :: wT) ({ frames := 0, cells := 0, slots := 0, locals := 0 } : Room) (fun v _ => v = ([.int a0, .int a1, .int a2] : List Value).toArray) (QcRead ((1000 * ((4 * a0) + a1)) + a2)) 0 0 (fun _ => False) := by
  refine PS.start (by decide) (Nat.le_of_ble_eq_true rfl) ?_
  intro p e s m below meth c ls hx hb hr hml hown hts hlocks hl
  have hown : s.vm.findClass RX12 = some m.cls := hown
  have hl : lv_has ls 3 [(0, .int a0), (1, .int a1), (2, .int a2)] := hl
  refine lv_sipush (v := 1000) hx hb dX12_cell_0 (by decide +kernel) ?_
  refine lv_iconst (v := 4) hx hb dX12_cell_3 (by decide) ?_
  refine lv_iload_n hx hb dX12_cell_4 rfl (lv_at hl 0 rfl) ?_
  refine lv_imul hx hb dX12_cell_5 ?_
  refine lv_iload_n hx hb dX12_cell_6 rfl (lv_at hl 1 rfl) ?_
  refine lv_iadd hx hb dX12_cell_7 ?_
  refine lv_imul hx hb dX12_cell_8 ?_
  refine lv_iload_n hx hb dX12_cell_9 rfl (lv_at hl 2 rfl) ?_
  refine lv_iadd hx hb dX12_cell_10 ?_
  exact r_iret hx hb hr hlocks dX12_cell_11
set_option maxHeartbeats 4000000 in
theorem m_isSpan (l : Launch) (a0 a1 : Int32) : Met l yX12_isSpan (.code yX12_isSpan cX12_isSpan 2 (some .boolean) :: wT) ({ frames := 1, cells := 0, slots := 0, locals := 22 } : Room) (fun v _ => v = ([.int a0, .int a1] : List Value).toArray) (QcRead (bz (pHours a0 a1))) 0 0 (fun _ => False) := by
  refine PS.start (by decide) (Nat.le_of_ble_eq_true rfl) ?_
  intro p e s m below meth c ls hx hb hr hml hown hts hlocks hl
  have hown : s.vm.findClass RX12 = some m.cls := hown
  have hl : lv_has ls 2 [(0, .int a0), (1, .int a1)] := hl
  refine lv_iload_n hx hb dX12_isSpan_0 rfl (lv_at hl 0 rfl) ?_
  refine lv_iconst (v := 0) hx hb dX12_isSpan_1 (by decide) ?_
  refine lv_sipush (v := 999) hx hb dX12_isSpan_2 (by decide +kernel) ?_
  refine q_runP (va_runS (As := [.int a0, .int 0, .int 999]) (rest := []) ⟨hx, hb, hml, hown, hts⟩ (m_in l a0 0 999) (cwS 3 hts (gTS kw7 kw8 kw9 kw10) rfl rfl rfl hd2 ⟨(Nat.le_of_ble_eq_true rfl), (Nat.le_of_ble_eq_true rfl)⟩) preEq rfl rfl hl.1 rfl (lv_room (Nat.le_of_ble_eq_true rfl)) dX12_isSpan_5 ⟨(Nat.le_of_ble_eq_true rfl), (Nat.le_of_ble_eq_true rfl)⟩) ?_
  refine lv_if_eq (tgt := 29) hx hb dX12_isSpan_8 (by decide) (fun c1 => ?_) (fun c1 => ?_)
  · have c1 := bz_n c1
    refine lv_iconst (v := 0) hx hb dX12_isSpan_29 (by decide) ?_
    exact r_zretE ((bz_f (fun q : pHours a0 a1 => c1 (hour_in.mpr q.1))).symm) hx hb hr hlocks rfl dX12_isSpan_30
  · have c1 := bz_p c1
    refine lv_iload_n hx hb dX12_isSpan_11 rfl (lv_at hl 1 rfl) ?_
    refine lv_iconst (v := 1) hx hb dX12_isSpan_12 (by decide) ?_
    refine lv_icmp_lt (tgt := 29) hx hb dX12_isSpan_13 (by decide) (fun c2 => ?_) (fun c2 => ?_)
    · refine lv_iconst (v := 0) hx hb dX12_isSpan_29 (by decide) ?_
      exact r_zretE ((bz_f (fun q : pHours a0 a1 => absurd c2 (Int32.not_lt.mpr q.2.1))).symm) hx hb hr hlocks rfl dX12_isSpan_30
    · refine lv_iload_n hx hb dX12_isSpan_16 rfl (lv_at hl 1 rfl) ?_
      refine lv_sipush (v := 1000) hx hb dX12_isSpan_17 (by decide +kernel) ?_
      refine lv_iload_n hx hb dX12_isSpan_20 rfl (lv_at hl 0 rfl) ?_
      refine lv_isub hx hb dX12_isSpan_21 ?_
      refine lv_icmp_gt (tgt := 29) hx hb dX12_isSpan_22 (by decide) (fun c3 => ?_) (fun c3 => ?_)
      · refine lv_iconst (v := 0) hx hb dX12_isSpan_29 (by decide) ?_
        exact r_zretE ((bz_f (fun q : pHours a0 a1 => absurd c3 (Int32.not_lt.mpr q.2.2))).symm) hx hb hr hlocks rfl dX12_isSpan_30
      · refine lv_iconst (v := 1) hx hb dX12_isSpan_25 (by decide) ?_
        refine lv_goto (tgt := 30) hx hb dX12_isSpan_26 (by decide) ?_
        exact r_zretE ((bz_t (show pHours a0 a1 from ⟨hour_in.mp c1, Int32.not_lt.mp c2, Int32.not_lt.mp c3⟩)).symm) hx hb hr hlocks rfl dX12_isSpan_30
set_option maxHeartbeats 4000000 in
theorem m_isWind (l : Launch) (a0 a1 a2 a3 a4 a5 : Int32) : Met l yX12_isWind (.code yX12_isWind cX12_isWind 6 (some .boolean) :: wT) ({ frames := 2, cells := 0, slots := 0, locals := 43 } : Room) (fun v _ => v = ([.int a0, .int a1, .int a2, .int a3, .int a4, .int a5] : List Value).toArray) (QcRead (bz (pWind a0 a1 a2 a3 a4 a5))) 0 0 (fun _ => False) := by
  refine PS.start (by decide) (Nat.le_of_ble_eq_true rfl) ?_
  intro p e s m below meth c ls hx hb hr hml hown hts hlocks hl
  have hown : s.vm.findClass RX12 = some m.cls := hown
  have hl : lv_has ls 6 [(0, .int a0), (1, .int a1), (2, .int a2), (3, .int a3), (4, .int a4), (5, .int a5)] := hl
  refine lv_iload_n hx hb dX12_isWind_0 rfl (lv_at hl 0 rfl) ?_
  refine lv_iconst (v := 1) hx hb dX12_isWind_1 (by decide) ?_
  refine lv_bipush (v := 6) hx hb dX12_isWind_2 (by decide) ?_
  refine q_runP (va_runS (As := [.int a0, .int 1, .int 6]) (rest := []) ⟨hx, hb, hml, hown, hts⟩ (m_in l a0 1 6) (cwS 3 hts (gTS kw7 kw8 kw9 kw10) rfl rfl rfl hd2 ⟨(Nat.le_of_ble_eq_true rfl), (Nat.le_of_ble_eq_true rfl)⟩) preEq rfl rfl hl.1 rfl (lv_room (Nat.le_of_ble_eq_true rfl)) dX12_isWind_4 ⟨(Nat.le_of_ble_eq_true rfl), (Nat.le_of_ble_eq_true rfl)⟩) ?_
  refine lv_if_eq (tgt := 53) hx hb dX12_isWind_7 (by decide) (fun c1 => ?_) (fun c1 => ?_)
  · have c1 := bz_n c1
    refine lv_iconst (v := 0) hx hb dX12_isWind_53 (by decide) ?_
    exact r_zretE ((bz_f (fun q : pWind a0 a1 a2 a3 a4 a5 => c1 q.1)).symm) hx hb hr hlocks rfl dX12_isWind_54
  · have c1 := bz_p c1
    refine lv_iload_n hx hb dX12_isWind_10 rfl (lv_at hl 1 rfl) ?_
    refine lv_iconst (v := 0) hx hb dX12_isWind_11 (by decide) ?_
    refine lv_iconst (v := 3) hx hb dX12_isWind_12 (by decide) ?_
    refine q_runP (va_runS (As := [.int a1, .int 0, .int 3]) (rest := []) ⟨hx, hb, hml, hown, hts⟩ (m_in l a1 0 3) (cwS 3 hts (gTS kw7 kw8 kw9 kw10) rfl rfl rfl hd2 ⟨(Nat.le_of_ble_eq_true rfl), (Nat.le_of_ble_eq_true rfl)⟩) preEq rfl rfl hl.1 rfl (lv_room (Nat.le_of_ble_eq_true rfl)) dX12_isWind_13 ⟨(Nat.le_of_ble_eq_true rfl), (Nat.le_of_ble_eq_true rfl)⟩) ?_
    refine lv_if_eq (tgt := 53) hx hb dX12_isWind_16 (by decide) (fun c2 => ?_) (fun c2 => ?_)
    · have c2 := bz_n c2
      refine lv_iconst (v := 0) hx hb dX12_isWind_53 (by decide) ?_
      exact r_zretE ((bz_f (fun q : pWind a0 a1 a2 a3 a4 a5 => c2 q.2.1)).symm) hx hb hr hlocks rfl dX12_isWind_54
    · have c2 := bz_p c2
      refine lv_iload_n hx hb dX12_isWind_19 rfl (lv_at hl 2 rfl) ?_
      refine lv_iload_n hx hb dX12_isWind_20 rfl (lv_at hl 3 rfl) ?_
      refine q_runP (va_runS (As := [.int a2, .int a3]) (rest := []) ⟨hx, hb, hml, hown, hts⟩ (m_isSpan l a2 a3) (cwS 2 hts (gTS kw11 kw12 kw13 kw10) rfl rfl rfl hd3 ⟨(Nat.le_of_ble_eq_true rfl), (Nat.le_of_ble_eq_true rfl)⟩) preEq rfl rfl hl.1 rfl (lv_room (Nat.le_of_ble_eq_true rfl)) dX12_isWind_21 ⟨(Nat.le_of_ble_eq_true rfl), (Nat.le_of_ble_eq_true rfl)⟩) ?_
      refine lv_if_eq (tgt := 53) hx hb dX12_isWind_24 (by decide) (fun c3 => ?_) (fun c3 => ?_)
      · have c3 := bz_n c3
        refine lv_iconst (v := 0) hx hb dX12_isWind_53 (by decide) ?_
        exact r_zretE ((bz_f (fun q : pWind a0 a1 a2 a3 a4 a5 => c3 q.2.2.1)).symm) hx hb hr hlocks rfl dX12_isWind_54
      · have c3 := bz_p c3
        refine lv_iload hx hb dX12_isWind_27 (lv_at hl 4 rfl) ?_
        refine lv_bipush (v := (-3)) hx hb dX12_isWind_29 (by decide) ?_
        refine lv_iconst (v := 3) hx hb dX12_isWind_31 (by decide) ?_
        refine q_runP (va_runS (As := [.int a4, .int (-3), .int 3]) (rest := []) ⟨hx, hb, hml, hown, hts⟩ (m_in l a4 (-3) 3) (cwS 3 hts (gTS kw7 kw8 kw9 kw10) rfl rfl rfl hd2 ⟨(Nat.le_of_ble_eq_true rfl), (Nat.le_of_ble_eq_true rfl)⟩) preEq rfl rfl hl.1 rfl (lv_room (Nat.le_of_ble_eq_true rfl)) dX12_isWind_32 ⟨(Nat.le_of_ble_eq_true rfl), (Nat.le_of_ble_eq_true rfl)⟩) ?_
        refine lv_if_eq (tgt := 53) hx hb dX12_isWind_35 (by decide) (fun c4 => ?_) (fun c4 => ?_)
        · have c4 := bz_n c4
          refine lv_iconst (v := 0) hx hb dX12_isWind_53 (by decide) ?_
          exact r_zretE ((bz_f (fun q : pWind a0 a1 a2 a3 a4 a5 => c4 q.2.2.2.1)).symm) hx hb hr hlocks rfl dX12_isWind_54
        · have c4 := bz_p c4
          refine lv_iload hx hb dX12_isWind_38 (lv_at hl 5 rfl) ?_
          refine lv_bipush (v := (-3)) hx hb dX12_isWind_40 (by decide) ?_
          refine lv_iconst (v := 3) hx hb dX12_isWind_42 (by decide) ?_
          refine q_runP (va_runS (As := [.int a5, .int (-3), .int 3]) (rest := []) ⟨hx, hb, hml, hown, hts⟩ (m_in l a5 (-3) 3) (cwS 3 hts (gTS kw7 kw8 kw9 kw10) rfl rfl rfl hd2 ⟨(Nat.le_of_ble_eq_true rfl), (Nat.le_of_ble_eq_true rfl)⟩) preEq rfl rfl hl.1 rfl (lv_room (Nat.le_of_ble_eq_true rfl)) dX12_isWind_43 ⟨(Nat.le_of_ble_eq_true rfl), (Nat.le_of_ble_eq_true rfl)⟩) ?_
          refine lv_if_eq (tgt := 53) hx hb dX12_isWind_46 (by decide) (fun c5 => ?_) (fun c5 => ?_)
          · have c5 := bz_n c5
            refine lv_iconst (v := 0) hx hb dX12_isWind_53 (by decide) ?_
            exact r_zretE ((bz_f (fun q : pWind a0 a1 a2 a3 a4 a5 => c5 q.2.2.2.2)).symm) hx hb hr hlocks rfl dX12_isWind_54
          · have c5 := bz_p c5
            refine lv_iconst (v := 1) hx hb dX12_isWind_49 (by decide) ?_
            refine lv_goto (tgt := 54) hx hb dX12_isWind_50 (by decide) ?_
            exact r_zretE ((bz_t (show pWind a0 a1 a2 a3 a4 a5 from ⟨c1, c2, c3, c4, c5⟩)).symm) hx hb hr hlocks rfl dX12_isWind_54
set_option maxHeartbeats 4000000 in
theorem m_isPlace (l : Launch) (a0 a1 a2 : Int32) : Met l yX12_isPlaceOfWind (.code yX12_isPlaceOfWind cX12_isPlaceOfWind 3 (some .boolean) :: wT) ({ frames := 1, cells := 0, slots := 0, locals := 22 } : Room) (fun v _ => v = ([.int a0, .int a1, .int a2] : List Value).toArray) (QcRead (bz (pPlace a0 a1 a2))) 0 0 (fun _ => False) := by
  refine PS.start (by decide) (Nat.le_of_ble_eq_true rfl) ?_
  intro p e s m below meth c ls hx hb hr hml hown hts hlocks hl
  have hown : s.vm.findClass RX12 = some m.cls := hown
  have hl : lv_has ls 3 [(0, .int a0), (1, .int a1), (2, .int a2)] := hl
  refine lv_iload_n hx hb dX12_isPlaceOfWind_0 rfl (lv_at hl 0 rfl) ?_
  refine lv_iconst (v := 1) hx hb dX12_isPlaceOfWind_1 (by decide) ?_
  refine lv_bipush (v := 6) hx hb dX12_isPlaceOfWind_2 (by decide) ?_
  refine q_runP (va_runS (As := [.int a0, .int 1, .int 6]) (rest := []) ⟨hx, hb, hml, hown, hts⟩ (m_in l a0 1 6) (cwS 3 hts (gTS kw7 kw8 kw9 kw10) rfl rfl rfl hd2 ⟨(Nat.le_of_ble_eq_true rfl), (Nat.le_of_ble_eq_true rfl)⟩) preEq rfl rfl hl.1 rfl (lv_room (Nat.le_of_ble_eq_true rfl)) dX12_isPlaceOfWind_4 ⟨(Nat.le_of_ble_eq_true rfl), (Nat.le_of_ble_eq_true rfl)⟩) ?_
  refine lv_if_eq (tgt := 34) hx hb dX12_isPlaceOfWind_7 (by decide) (fun c1 => ?_) (fun c1 => ?_)
  · have c1 := bz_n c1
    refine lv_iconst (v := 0) hx hb dX12_isPlaceOfWind_34 (by decide) ?_
    exact r_zretE ((bz_f (fun q : pPlace a0 a1 a2 => c1 q.1)).symm) hx hb hr hlocks rfl dX12_isPlaceOfWind_35
  · have c1 := bz_p c1
    refine lv_iload_n hx hb dX12_isPlaceOfWind_10 rfl (lv_at hl 1 rfl) ?_
    refine lv_iconst (v := 0) hx hb dX12_isPlaceOfWind_11 (by decide) ?_
    refine lv_iconst (v := 3) hx hb dX12_isPlaceOfWind_12 (by decide) ?_
    refine q_runP (va_runS (As := [.int a1, .int 0, .int 3]) (rest := []) ⟨hx, hb, hml, hown, hts⟩ (m_in l a1 0 3) (cwS 3 hts (gTS kw7 kw8 kw9 kw10) rfl rfl rfl hd2 ⟨(Nat.le_of_ble_eq_true rfl), (Nat.le_of_ble_eq_true rfl)⟩) preEq rfl rfl hl.1 rfl (lv_room (Nat.le_of_ble_eq_true rfl)) dX12_isPlaceOfWind_13 ⟨(Nat.le_of_ble_eq_true rfl), (Nat.le_of_ble_eq_true rfl)⟩) ?_
    refine lv_if_eq (tgt := 34) hx hb dX12_isPlaceOfWind_16 (by decide) (fun c2 => ?_) (fun c2 => ?_)
    · have c2 := bz_n c2
      refine lv_iconst (v := 0) hx hb dX12_isPlaceOfWind_34 (by decide) ?_
      exact r_zretE ((bz_f (fun q : pPlace a0 a1 a2 => c2 q.2.1)).symm) hx hb hr hlocks rfl dX12_isPlaceOfWind_35
    · have c2 := bz_p c2
      refine lv_iload_n hx hb dX12_isPlaceOfWind_19 rfl (lv_at hl 2 rfl) ?_
      refine lv_iconst (v := 0) hx hb dX12_isPlaceOfWind_20 (by decide) ?_
      refine lv_sipush (v := 999) hx hb dX12_isPlaceOfWind_21 (by decide +kernel) ?_
      refine q_runP (va_runS (As := [.int a2, .int 0, .int 999]) (rest := []) ⟨hx, hb, hml, hown, hts⟩ (m_in l a2 0 999) (cwS 3 hts (gTS kw7 kw8 kw9 kw10) rfl rfl rfl hd2 ⟨(Nat.le_of_ble_eq_true rfl), (Nat.le_of_ble_eq_true rfl)⟩) preEq rfl rfl hl.1 rfl (lv_room (Nat.le_of_ble_eq_true rfl)) dX12_isPlaceOfWind_24 ⟨(Nat.le_of_ble_eq_true rfl), (Nat.le_of_ble_eq_true rfl)⟩) ?_
      refine lv_if_eq (tgt := 34) hx hb dX12_isPlaceOfWind_27 (by decide) (fun c3 => ?_) (fun c3 => ?_)
      · have c3 := bz_n c3
        refine lv_iconst (v := 0) hx hb dX12_isPlaceOfWind_34 (by decide) ?_
        exact r_zretE ((bz_f (fun q : pPlace a0 a1 a2 => c3 q.2.2)).symm) hx hb hr hlocks rfl dX12_isPlaceOfWind_35
      · have c3 := bz_p c3
        refine lv_iconst (v := 1) hx hb dX12_isPlaceOfWind_30 (by decide) ?_
        refine lv_goto (tgt := 35) hx hb dX12_isPlaceOfWind_31 (by decide) ?_
        exact r_zretE ((bz_t (show pPlace a0 a1 a2 from ⟨c1, c2, c3⟩)).symm) hx hb hr hlocks rfl dX12_isPlaceOfWind_35
set_option maxHeartbeats 4000000 in
theorem m_isFill (l : Launch) (a0 a1 : Int32) : Met l yX12_isFill (.code yX12_isFill cX12_isFill 2 (some .boolean) :: wT) ({ frames := 1, cells := 0, slots := 0, locals := 22 } : Room) (fun v _ => v = ([.int a0, .int a1] : List Value).toArray) (QcRead (bz (pFill a0 a1))) 0 0 (fun _ => False) := by
  refine PS.start (by decide) (Nat.le_of_ble_eq_true rfl) ?_
  intro p e s m below meth c ls hx hb hr hml hown hts hlocks hl
  have hown : s.vm.findClass RX12 = some m.cls := hown
  have hl : lv_has ls 2 [(0, .int a0), (1, .int a1)] := hl
  refine lv_iload_n hx hb dX12_isFill_0 rfl (lv_at hl 0 rfl) ?_
  refine lv_iconst (v := 1) hx hb dX12_isFill_1 (by decide) ?_
  refine lv_sipush (v := 10000) hx hb dX12_isFill_2 (by decide +kernel) ?_
  refine q_runP (va_runS (As := [.int a0, .int 1, .int 10000]) (rest := []) ⟨hx, hb, hml, hown, hts⟩ (m_in l a0 1 10000) (cwS 3 hts (gTS kw7 kw8 kw9 kw10) rfl rfl rfl hd2 ⟨(Nat.le_of_ble_eq_true rfl), (Nat.le_of_ble_eq_true rfl)⟩) preEq rfl rfl hl.1 rfl (lv_room (Nat.le_of_ble_eq_true rfl)) dX12_isFill_5 ⟨(Nat.le_of_ble_eq_true rfl), (Nat.le_of_ble_eq_true rfl)⟩) ?_
  refine lv_if_eq (tgt := 25) hx hb dX12_isFill_8 (by decide) (fun c1 => ?_) (fun c1 => ?_)
  · have c1 := bz_n c1
    refine lv_iconst (v := 0) hx hb dX12_isFill_25 (by decide) ?_
    exact r_zretE ((bz_f (fun q : pFill a0 a1 => c1 q.1)).symm) hx hb hr hlocks rfl dX12_isFill_26
  · have c1 := bz_p c1
    refine lv_iload_n hx hb dX12_isFill_11 rfl (lv_at hl 1 rfl) ?_
    refine lv_iconst (v := 1) hx hb dX12_isFill_12 (by decide) ?_
    refine lv_bipush (v := 100) hx hb dX12_isFill_13 (by decide) ?_
    refine q_runP (va_runS (As := [.int a1, .int 1, .int 100]) (rest := []) ⟨hx, hb, hml, hown, hts⟩ (m_in l a1 1 100) (cwS 3 hts (gTS kw7 kw8 kw9 kw10) rfl rfl rfl hd2 ⟨(Nat.le_of_ble_eq_true rfl), (Nat.le_of_ble_eq_true rfl)⟩) preEq rfl rfl hl.1 rfl (lv_room (Nat.le_of_ble_eq_true rfl)) dX12_isFill_15 ⟨(Nat.le_of_ble_eq_true rfl), (Nat.le_of_ble_eq_true rfl)⟩) ?_
    refine lv_if_eq (tgt := 25) hx hb dX12_isFill_18 (by decide) (fun c2 => ?_) (fun c2 => ?_)
    · have c2 := bz_n c2
      refine lv_iconst (v := 0) hx hb dX12_isFill_25 (by decide) ?_
      exact r_zretE ((bz_f (fun q : pFill a0 a1 => c2 q.2)).symm) hx hb hr hlocks rfl dX12_isFill_26
    · have c2 := bz_p c2
      refine lv_iconst (v := 1) hx hb dX12_isFill_21 (by decide) ?_
      refine lv_goto (tgt := 26) hx hb dX12_isFill_22 (by decide) ?_
      exact r_zretE ((bz_t (show pFill a0 a1 from ⟨c1, c2⟩)).symm) hx hb hr hlocks rfl dX12_isFill_26
set_option maxHeartbeats 4000000 in
theorem m_isSquare (l : Launch) (a0 a1 : Int32) : Met l yX12_isSquare (.code yX12_isSquare cX12_isSquare 2 (some .boolean) :: wT) ({ frames := 1, cells := 0, slots := 0, locals := 22 } : Room) (fun v _ => v = ([.int a0, .int a1] : List Value).toArray) (QcRead (bz (pSq a0 a1))) 0 0 (fun _ => False) := by
  refine PS.start (by decide) (Nat.le_of_ble_eq_true rfl) ?_
  intro p e s m below meth c ls hx hb hr hml hown hts hlocks hl
  have hown : s.vm.findClass RX12 = some m.cls := hown
  have hl : lv_has ls 2 [(0, .int a0), (1, .int a1)] := hl
  refine lv_iload_n hx hb dX12_isSquare_0 rfl (lv_at hl 0 rfl) ?_
  refine lv_iconst (v := 0) hx hb dX12_isSquare_1 (by decide) ?_
  refine lv_bipush (v := 23) hx hb dX12_isSquare_2 (by decide) ?_
  refine q_runP (va_runS (As := [.int a0, .int 0, .int 23]) (rest := []) ⟨hx, hb, hml, hown, hts⟩ (m_in l a0 0 23) (cwS 3 hts (gTS kw7 kw8 kw9 kw10) rfl rfl rfl hd2 ⟨(Nat.le_of_ble_eq_true rfl), (Nat.le_of_ble_eq_true rfl)⟩) preEq rfl rfl hl.1 rfl (lv_room (Nat.le_of_ble_eq_true rfl)) dX12_isSquare_4 ⟨(Nat.le_of_ble_eq_true rfl), (Nat.le_of_ble_eq_true rfl)⟩) ?_
  refine lv_if_eq (tgt := 24) hx hb dX12_isSquare_7 (by decide) (fun c1 => ?_) (fun c1 => ?_)
  · have c1 := bz_n c1
    refine lv_iconst (v := 0) hx hb dX12_isSquare_24 (by decide) ?_
    exact r_zretE ((bz_f (fun q : pSq a0 a1 => c1 q.1)).symm) hx hb hr hlocks rfl dX12_isSquare_25
  · have c1 := bz_p c1
    refine lv_iload_n hx hb dX12_isSquare_10 rfl (lv_at hl 1 rfl) ?_
    refine lv_iconst (v := 0) hx hb dX12_isSquare_11 (by decide) ?_
    refine lv_bipush (v := 23) hx hb dX12_isSquare_12 (by decide) ?_
    refine q_runP (va_runS (As := [.int a1, .int 0, .int 23]) (rest := []) ⟨hx, hb, hml, hown, hts⟩ (m_in l a1 0 23) (cwS 3 hts (gTS kw7 kw8 kw9 kw10) rfl rfl rfl hd2 ⟨(Nat.le_of_ble_eq_true rfl), (Nat.le_of_ble_eq_true rfl)⟩) preEq rfl rfl hl.1 rfl (lv_room (Nat.le_of_ble_eq_true rfl)) dX12_isSquare_14 ⟨(Nat.le_of_ble_eq_true rfl), (Nat.le_of_ble_eq_true rfl)⟩) ?_
    refine lv_if_eq (tgt := 24) hx hb dX12_isSquare_17 (by decide) (fun c2 => ?_) (fun c2 => ?_)
    · have c2 := bz_n c2
      refine lv_iconst (v := 0) hx hb dX12_isSquare_24 (by decide) ?_
      exact r_zretE ((bz_f (fun q : pSq a0 a1 => c2 q.2)).symm) hx hb hr hlocks rfl dX12_isSquare_25
    · have c2 := bz_p c2
      refine lv_iconst (v := 1) hx hb dX12_isSquare_20 (by decide) ?_
      refine lv_goto (tgt := 25) hx hb dX12_isSquare_21 (by decide) ?_
      exact r_zretE ((bz_t (show pSq a0 a1 from ⟨c1, c2⟩)).symm) hx hb hr hlocks rfl dX12_isSquare_25
set_option maxHeartbeats 4000000 in
theorem m_least (l : Launch) (a0 a1 : Int32) : Met l yX12_least (.code yX12_least cX12_least 2 (some .int) :: wT) ({ frames := 0, cells := 0, slots := 0, locals := 0 } : Room) (fun v _ => v = ([.int a0, .int a1] : List Value).toArray) (QcRead (mleast a0 a1)) 0 0 (fun _ => False) := by
  refine PS.start (by decide) (Nat.le_of_ble_eq_true rfl) ?_
  intro p e s m below meth c ls hx hb hr hml hown hts hlocks hl
  have hown : s.vm.findClass RX12 = some m.cls := hown
  have hl : lv_has ls 2 [(0, .int a0), (1, .int a1)] := hl
  refine lv_iload_n hx hb dX12_least_0 rfl (lv_at hl 0 rfl) ?_
  refine lv_iload_n hx hb dX12_least_1 rfl (lv_at hl 1 rfl) ?_
  refine lv_icmp_ge (tgt := 9) hx hb dX12_least_2 (by decide) (fun c1 => ?_) (fun c1 => ?_)
  · refine lv_iload_n hx hb dX12_least_9 rfl (lv_at hl 1 rfl) ?_
    exact lv_lit (v := mleast a0 a1) ((by unfold mleast; exact (if_neg (Int32.not_lt.mpr c1)).symm)) (r_iret hx hb hr hlocks dX12_least_10)
  · refine lv_iload_n hx hb dX12_least_5 rfl (lv_at hl 0 rfl) ?_
    refine lv_goto (tgt := 10) hx hb dX12_least_6 (by decide) ?_
    exact lv_lit (v := mleast a0 a1) ((by unfold mleast; exact (if_pos (Int32.not_le.mp c1)).symm)) (r_iret hx hb hr hlocks dX12_least_10)
theorem c_require_1 (l : Launch) : Met l yX11_require (.code yX11_require cX11_require 1 none :: wT) ({ frames := 0, cells := 0, slots := 0, locals := 0 } : Room) (fun v _ => v = ([.int 1] : List Value).toArray) QcV 0 0 (fun _ => False) := by
  refine PS.start (by decide) (Nat.le_of_ble_eq_true rfl) ?_
  intro p e s m below meth c ls hx hb hr hml hown hts hlocks hl
  have hl : lv_has ls 1 [(0, .int 1)] := hl
  refine lv_iload_n hx hb dX11_require_0 rfl (lv_at hl 0 rfl) ?_
  refine lv_if_ne (tgt := 15) hx hb dX11_require_1 (by decide) (fun _ => ?_) (fun c9 => absurd c9 (by decide +kernel))
  exact r_vret hx hb hr hlocks dX11_require_15
