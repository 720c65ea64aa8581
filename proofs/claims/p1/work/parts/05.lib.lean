theorem vin {i : Int32} {n : Nat} (h : decide (i < 0 ∨ n ≤ i.toNatClampNeg) = false) : vp_in i n := of_decide_eq_false h
theorem zshr (y : Int32) : (0 : Int32) >>> (y &&& 31) = 0 := by
  apply Int32.toBitVec_inj.mp
  simp [Int32.toBitVec_shiftRight]
/-! ===== what the arguments must be ===== -/
def pIn (v lo hi : Int32) : Prop := lo ≤ v ∧ v ≤ hi
def pHour (h : Int32) : Prop := 0 ≤ h ∧ h < 1000
def pHours (f n : Int32) : Prop := pHour f ∧ pIn n 1 (1000 - f)
def pSq (x y : Int32) : Prop := pIn x 0 23 ∧ pIn y 0 23
def pAir (l a : Int32) : Prop := pIn l 1 6 ∧ pIn a 0 3
def pPull (x y : Int32) : Prop := pIn x (-3) 3 ∧ pIn y (-3) 3
def pWind (l a f n x y : Int32) : Prop := pIn l 1 6 ∧ pIn a 0 3 ∧ pHours f n ∧ pIn x (-3) 3 ∧ pIn y (-3) 3
def pPlace (l a h : Int32) : Prop := pIn l 1 6 ∧ pIn a 0 3 ∧ pIn h 0 999
def pFill (a p : Int32) : Prop := pIn a 1 10000 ∧ pIn p 1 100
def pOut (v : Int32) (lo hi : Int) : Prop := v.toInt < lo ∨ hi < v.toInt
def mleast (a b : Int32) : Int32 := if a < b then a else b
theorem pno {b : Int32} : ¬ pIn b 0 (-1) := by
  intro h
  have h1 := Int32.le_iff_toInt_le.mp h.1
  have h2 := Int32.le_iff_toInt_le.mp h.2
  have e1 : (0 : Int32).toInt = 0 := by decide
  have e2 : (-1 : Int32).toInt = -1 := by decide
  omega
theorem hour_in {h : Int32} : pIn h 0 999 ↔ pHour h := by
  unfold pIn pHour
  rw [Int32.le_iff_toInt_le, Int32.le_iff_toInt_le, Int32.lt_iff_toInt_lt]
  have e2 : (999 : Int32).toInt = 999 := by decide
  have e3 : (1000 : Int32).toInt = 1000 := by decide
  omega
/-! ===== the words of a throw ===== -/
theorem xw_all {args : Array Value} {s : State} (hts : ∀ w ∈ wT, w.before args s = true) (hE : EN0 s) {L : List Cond} (h : L.all (fun w => (decide (w ∈ lw_tbl)) && (goodWord w || nbw w)) = true) : ∀ w ∈ L, w.before args s = true := by
  intro w hw
  have h1 := List.all_eq_true.mp h w hw
  simp only [Bool.and_eq_true, decide_eq_true_eq, Bool.or_eq_true] at h1
  rcases h1.2 with g | g
  · exact hts w (wT_in h1.1 g)
  · refine va_Nw.use ?_ (hE.1 w h1.1 g)
    cases w <;> first | rfl | exact absurd g (by simp [nbw])
theorem xw_IllegalArgumentException {args : Array Value} {s : State} (hts : ∀ w ∈ wT, w.before args s = true) (hE : EN0 s) : ∀ w ∈ vx_atS RX11 373 "java/lang/IllegalArgumentException" ["java/lang/RuntimeException", "java/lang/Exception"], w.before args s = true := xw_all hts hE (by decide +kernel)
theorem xw_IllegalArgumentException_g : ∀ w ∈ Cond.classLink RX11 369 "java/lang/IllegalArgumentException" :: Cond.initialized "java/lang/IllegalArgumentException" :: vx_atS RX11 373 "java/lang/IllegalArgumentException" ["java/lang/RuntimeException", "java/lang/Exception"], vx_ot w = true := by decide +kernel
theorem xw_IndexOutOfBoundsException {args : Array Value} {s : State} (hts : ∀ w ∈ wT, w.before args s = true) (hE : EN0 s) : ∀ w ∈ vx_atS RX11 378 "java/lang/IndexOutOfBoundsException" ["java/lang/RuntimeException", "java/lang/Exception"], w.before args s = true := xw_all hts hE (by decide +kernel)
theorem xw_IndexOutOfBoundsException_g : ∀ w ∈ Cond.classLink RX11 374 "java/lang/IndexOutOfBoundsException" :: Cond.initialized "java/lang/IndexOutOfBoundsException" :: vx_atS RX11 378 "java/lang/IndexOutOfBoundsException" ["java/lang/RuntimeException", "java/lang/Exception"], vx_ot w = true := by decide +kernel
