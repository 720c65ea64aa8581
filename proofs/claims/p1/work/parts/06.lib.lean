/-! ===== loops, and what bounds say ===== -/
theorem lw_loop {p : Program} {l : Launch} {e : Env} {R : Room} {s : State} {m : MethodId} {args : Array Value} {below : List Frame} {meth : Method} {c : Code} {cells slots : Nat} {Q : State → Prop} {pc : Nat} {σ : Type} (I : Nat → σ → Heap → Array Slot → List Loc → Prop)
    (step : ∀ (n : Nat) (z : σ) (H : Heap) (ls : Array Slot) (locs : List Loc), I n z H ls locs → (∀ (n' : Nat) (z' : σ) (H' : Heap) (ls' : Array Slot) (locs' : List Loc), n' < n → I n' z' H' ls' locs' → W p l e R s m args below meth c H' locs' cells slots Q (F0 m pc ls' [])) → W p l e R s m args below meth c H locs cells slots Q (F0 m pc ls [])) :
    ∀ (n : Nat) (z : σ) (H : Heap) (ls : Array Slot) (locs : List Loc), I n z H ls locs → W p l e R s m args below meth c H locs cells slots Q (F0 m pc ls []) := by
  intro n
  induction n using Nat.strongRecOn with
  | _ n ih => exact fun z H ls locs h => step n z H ls locs h (fun n' z' H' ls' locs' hn h' => ih n' hn z' H' ls' locs' h')
/-- a counter between two bounds, with what is left -/
def vL (n : Nat) (lo i b : Int32) : Prop := lo.toInt ≤ i.toInt ∧ i.toInt ≤ b.toInt ∧ b.toInt ≤ i.toInt + n
theorem vL.of {lo b : Int32} (h : lo ≤ b) : vL (b.toInt - lo.toInt).toNat lo lo b := by
  have := Int32.le_iff_toInt_le.mp h
  unfold vL
  omega
theorem i_succ {i b : Int32} (h : i < b) : (i + 1).toInt = i.toInt + 1 := by
  have h1 := Int32.lt_iff_toInt_lt.mp h
  have h2 := b.toInt_lt
  have h3 := i.le_toInt
  rw [Int32.toInt_add]
  have e1 : (1 : Int32).toInt = 1 := by decide
  rw [e1]
  have : Int.bmod (i.toInt + 1) (2 ^ 32) = i.toInt + 1 := by
    apply Int.bmod_eq_of_le <;> omega
  exact this
theorem vL.step {n : Nat} {lo i b : Int32} (h : vL n lo i b) (hc : ¬ b ≤ i) : n - 1 < n ∧ vL (n - 1) lo (i + 1) b := by
  have h1 := Int32.lt_iff_toInt_lt.mp (Int32.not_le.mp hc)
  have h2 := i_succ (Int32.not_le.mp hc)
  unfold vL at *
  rw [h2]
  omega
theorem vL.stepG {n : Nat} {lo i b : Int32} (h : vL n lo i (b + 1)) (hb : (b + 1).toInt = b.toInt + 1) (hc : ¬ b < i) : n - 1 < n ∧ vL (n - 1) lo (i + 1) (b + 1) := by
  have h1 := Int32.le_iff_toInt_le.mp (Int32.not_lt.mp hc)
  refine h.step (fun q => ?_)
  have := Int32.le_iff_toInt_le.mp q
  omega
theorem vL.out {n : Nat} {lo i b : Int32} (h : vL n lo i b) (hc : b ≤ i) : i = b := by
  have h1 := Int32.le_iff_toInt_le.mp hc
  unfold vL at h
  exact Int32.toInt_inj.mp (by omega)
theorem int_lits : (0 : Int32).toInt = 0 ∧ (1 : Int32).toInt = 1 ∧ (1000 : Int32).toInt = 1000 ∧ (999 : Int32).toInt = 999 ∧ (23 : Int32).toInt = 23 ∧ (24 : Int32).toInt = 24 ∧ (6 : Int32).toInt = 6 ∧ (3 : Int32).toInt = 3 ∧ (4 : Int32).toInt = 4 := by decide
theorem b32 {x : Int} (h1 : -2147483648 ≤ x) (h2 : x ≤ 2147483647) : Int.bmod x (2 ^ 32) = x := by
  apply Int.bmod_eq_of_le <;> omega
theorem hours_sum {f n : Int32} (h : pHours f n) : (f + n).toInt = f.toInt + n.toInt ∧ 0 ≤ f.toInt ∧ 1 ≤ n.toInt ∧ f.toInt + n.toInt ≤ 1000 := by
  obtain ⟨⟨h1, h2⟩, h3, h4⟩ := h
  rw [Int32.le_iff_toInt_le] at h1 h3 h4
  rw [Int32.lt_iff_toInt_lt] at h2
  obtain ⟨e0, e1, e2, -⟩ := int_lits
  rw [Int32.toInt_sub, e2] at h4
  rw [e0] at h1
  rw [e1] at h3
  rw [e2] at h2
  rw [b32 (by omega) (by omega)] at h4
  rw [Int32.toInt_add, b32 (by omega) (by omega)]
  omega
theorem hours_le {f n : Int32} (h : pHours f n) : f ≤ f + n := by
  have := hours_sum h
  rw [Int32.le_iff_toInt_le]
  omega
theorem vp_of {i : Int32} {n : Nat} (h1 : 0 ≤ i.toInt) (h2 : i.toInt < n) : vp_in i n := by
  intro q
  rcases q with q | q
  · have := Int32.lt_iff_toInt_lt.mp q
    rw [int_lits.1] at this
    omega
  · have : i.toNatClampNeg = i.toInt.toNat := rfl
    omega
theorem hour_vin {i : Int32} (h : pHour i) : vp_in i 1000 := by
  obtain ⟨h1, h2⟩ := h
  rw [Int32.le_iff_toInt_le, int_lits.1] at h1
  rw [Int32.lt_iff_toInt_lt, int_lits.2.2.1] at h2
  exact vp_of h1 (by omega)
theorem span_vin {f n i : Int32} {k : Nat} (h : pHours f n) (hv : vL k f i (f + n)) (hc : ¬ (f + n) ≤ i) : vp_in i 1000 := by
  have h1 := hours_sum h
  have h2 := Int32.lt_iff_toInt_lt.mp (Int32.not_le.mp hc)
  unfold vL at hv
  exact vp_of (by omega) (by omega)
theorem slot_vin {i sl : Int32} (h : pHour i) (hs : pIn sl 0 23) : vp_in ((i * 24) + sl) 24000 := by
  obtain ⟨h1, h2⟩ := h
  obtain ⟨h3, h4⟩ := hs
  obtain ⟨e0, e1, e2, e3, e4, e5, -⟩ := int_lits
  rw [Int32.le_iff_toInt_le] at h1 h3 h4
  rw [Int32.lt_iff_toInt_lt] at h2
  rw [e0] at h1 h3
  rw [e4] at h4
  rw [e2] at h2
  have : ((i * 24) + sl).toInt = i.toInt * 24 + sl.toInt := by
    rw [Int32.toInt_add, Int32.toInt_mul, e5, b32 (x := i.toInt * 24) (by omega) (by omega), b32 (by omega) (by omega)]
  exact vp_of (by omega) (by omega)
theorem cell_val {l a h : Int32} (hl : pIn l 1 6) (ha : pIn a 0 3) (h0 : 0 ≤ h.toInt) (h1 : h.toInt < 1000) : vp_in ((1000 * ((4 * l) + a)) + h) 28000 := by
  obtain ⟨h3, h4⟩ := hl
  obtain ⟨h5, h6⟩ := ha
  obtain ⟨e0, e1, e2, e3, e4, e5, e6, e7, e8⟩ := int_lits
  rw [Int32.le_iff_toInt_le] at h3 h4 h5 h6
  rw [e0] at h5
  rw [e1] at h3
  rw [e6] at h4
  rw [e7] at h6
  have g1 : (4 * l).toInt = 4 * l.toInt := by rw [Int32.toInt_mul, e8, b32 (by omega) (by omega)]
  have g2 : ((4 * l) + a).toInt = 4 * l.toInt + a.toInt := by rw [Int32.toInt_add, g1, b32 (by omega) (by omega)]
  have g3 : (1000 * ((4 * l) + a)).toInt = 1000 * (4 * l.toInt + a.toInt) := by rw [Int32.toInt_mul, e2, g2, b32 (by omega) (by omega)]
  have g4 : ((1000 * ((4 * l) + a)) + h).toInt = 1000 * (4 * l.toInt + a.toInt) + h.toInt := by rw [Int32.toInt_add, g3, b32 (by omega) (by omega)]
  exact vp_of (by omega) (by omega)
theorem place_vin {l a h : Int32} (q : pPlace l a h) : vp_in ((1000 * ((4 * l) + a)) + h) 28000 := by
  obtain ⟨hl, ha, hh⟩ := q
  obtain ⟨h1, h2⟩ := hour_in.mp hh
  rw [Int32.le_iff_toInt_le, int_lits.1] at h1
  rw [Int32.lt_iff_toInt_lt, int_lits.2.2.1] at h2
  exact cell_val hl ha h1 h2
theorem wind_vin {l a f n x y i : Int32} {k : Nat} (q : pWind l a f n x y) (hv : vL k f i (f + n)) (hc : ¬ (f + n) ≤ i) : vp_in ((1000 * ((4 * l) + a)) + i) 28000 := by
  obtain ⟨hl, ha, hs, -, -⟩ := q
  have h1 := hours_sum hs
  have h2 := Int32.lt_iff_toInt_lt.mp (Int32.not_le.mp hc)
  unfold vL at hv
  exact cell_val hl ha (by omega) (by omega)
theorem pIn_le {v lo hi b : Int32} (h : pIn v lo hi) (hb : hi ≤ b) : v ≤ b := Int32.le_iff_toInt_le.mpr (Int.le_trans (Int32.le_iff_toInt_le.mp h.2) (Int32.le_iff_toInt_le.mp hb))
/-! ===== what a call asks of its arguments, as a whole ===== -/
abbrev pOrd (v : Int32) : Prop := ¬ (v - v / 10 * 10) < (v / 10)
abbrev pTop (v : Int32) : Prop := ¬ 6 < (v - v / 10 * 10)
def vWind (l a f n x y : Int32) : Prop := pAir l a ∧ pHours f n ∧ pPull x y
def vTold (l a h : Int32) : Prop := pAir l a ∧ pHour h
def vBall (v n : Int32) : Prop := pIn v 100 5000 ∧ pIn n 10 1000
def vCyl (a p r : Int32) : Prop := pIn a 1 1000 ∧ pIn p 1 100 ∧ pIn r 0 1000
def vFable (a p w : Int32) : Prop := pIn a 1 10000 ∧ pIn p 1 100 ∧ pIn w 0 3
def vZone (o t v f g n : Int32) : Prop := pIn o 0 575 ∧ pIn t 0 575 ∧ pIn v 0 66 ∧ pOrd v ∧ pTop v ∧ pIn f 0 1000 ∧ pIn g f 1000 ∧ pIn n 1 100
def vSight (h x y : Int32) : Prop := pHour h ∧ pSq x y
def vLog (a e : Int32) : Prop := pIn a 0 10000 ∧ pIn e 0 500
theorem wind_iff {l a f n x y : Int32} : pWind l a f n x y ↔ vWind l a f n x y := ⟨fun h => ⟨⟨h.1, h.2.1⟩, h.2.2.1, h.2.2.2⟩, fun h => ⟨h.1.1, h.1.2, h.2.1, h.2.2⟩⟩
theorem told_iff {l a h : Int32} : pPlace l a h ↔ vTold l a h := ⟨fun q => ⟨⟨q.1, q.2.1⟩, hour_in.mp q.2.2⟩, fun q => ⟨q.1.1, q.1.2, hour_in.mpr q.2⟩⟩
theorem cnt_split (v : Int32) : v = 0 ∨ v = 1 ∨ v = 2 ∨ v = 3 ∨ v = 4 ∨ v = 5 ∨ v = 6 ∨ v = 7 ∨ v = 8 ∨ v = 9 ∨ pOut v 0 9 := by
  have hd : ∀ k : Int32, v.toInt = k.toInt → v = k := fun k h => Int32.toInt_inj.mp h
  rcases (by omega : v.toInt = 0 ∨ v.toInt = 1 ∨ v.toInt = 2 ∨ v.toInt = 3 ∨ v.toInt = 4 ∨ v.toInt = 5 ∨ v.toInt = 6 ∨ v.toInt = 7 ∨ v.toInt = 8 ∨ v.toInt = 9 ∨ (v.toInt < 0 ∨ 9 < v.toInt)) with h | h | h | h | h | h | h | h | h | h | h
  · exact Or.inl (hd 0 h)
  · exact Or.inr (Or.inl (hd 1 h))
  · exact Or.inr (Or.inr (Or.inl (hd 2 h)))
  · exact Or.inr (Or.inr (Or.inr (Or.inl (hd 3 h))))
  · exact Or.inr (Or.inr (Or.inr (Or.inr (Or.inl (hd 4 h)))))
  · exact Or.inr (Or.inr (Or.inr (Or.inr (Or.inr (Or.inl (hd 5 h))))))
  · exact Or.inr (Or.inr (Or.inr (Or.inr (Or.inr (Or.inr (Or.inl (hd 6 h)))))))
  · exact Or.inr (Or.inr (Or.inr (Or.inr (Or.inr (Or.inr (Or.inr (Or.inl (hd 7 h))))))))
  · exact Or.inr (Or.inr (Or.inr (Or.inr (Or.inr (Or.inr (Or.inr (Or.inr (Or.inl (hd 8 h)))))))))
  · exact Or.inr (Or.inr (Or.inr (Or.inr (Or.inr (Or.inr (Or.inr (Or.inr (Or.inr (Or.inl (hd 9 h))))))))))
  · exact Or.inr (Or.inr (Or.inr (Or.inr (Or.inr (Or.inr (Or.inr (Or.inr (Or.inr (Or.inr h)))))))))
theorem leak_split (v : Int32) : v = 0 ∨ v = 1 ∨ v = 2 ∨ ¬ pIn v 0 2 := by
  rcases Classical.em (pIn v 0 2) with h | h
  · have h1 := Int32.le_iff_toInt_le.mp h.1
    have h2 := Int32.le_iff_toInt_le.mp h.2
    have e0 : (0 : Int32).toInt = 0 := by decide
    have e2 : (2 : Int32).toInt = 2 := by decide
    have hd : ∀ k : Int32, v.toInt = k.toInt → v = k := fun k h => Int32.toInt_inj.mp h
    have e1 : (1 : Int32).toInt = 1 := by decide
    rcases (by omega : v.toInt = 0 ∨ v.toInt = 1 ∨ v.toInt = 2) with h | h | h
    · exact Or.inl (hd 0 h)
    · exact Or.inr (Or.inl (hd 1 (by rw [e1]; exact h)))
    · exact Or.inr (Or.inr (Or.inl (hd 2 (by rw [e2]; exact h))))
  · exact Or.inr (Or.inr (Or.inr h))
theorem lg_cmp_eq0 (x : Int64) : lg_cmp x x = 0 := (lg_cmp_eq x x).mpr rfl
