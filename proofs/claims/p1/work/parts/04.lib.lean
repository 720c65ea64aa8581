/-! ===== ends and calls ===== -/
section Ends2
variable {p : Program} {l : Launch} {e : Env} {R : Room} {s : State} {m : MethodId} {args : Array Value} {below : List Frame} {meth : Method} {c : Code} {H : Heap} {locs : List Loc} {cells slots : Nat} {Q : State → Prop}
variable {cc : ByteArray} {pc : Nat} {ls : Array Slot} {rest st : List Value} {D : va_G} {A : Nat → Prop} {tys : List (ClassId × FieldType)} {ws : va_W} {mc ms : Nat}
theorem lv_lit {x v : Int32} (h : x = v) (k : W p l e R s m args below meth c H locs cells slots Q (F0 m pc ls (.int v :: rest))) : W p l e R s m args below meth c H locs cells slots Q (F0 m pc ls (.int x :: rest)) := h ▸ k
theorem lv_litl {x v : Int64} (h : x = v) (k : W p l e R s m args below meth c H locs cells slots Q (F0 m pc ls (.long v :: rest))) : W p l e R s m args below meth c H locs cells slots Q (F0 m pc ls (.long x :: rest)) := h ▸ k
theorem q_iret {S : Type} {w1 : S → va_W} {t1 : S → List (ClassId × FieldType)} {v : Int32} (u : S) (hx : p.tables.exec = Jvm.exec) (hb : c.code = cc) (hr : meth.sig.returnType = some .int) (hlocks : meth.locks = false)
    (hP : va_P D vwCl ws H) (hK : va_K D vwCl tys s) (hD : va_D A ws) (hS : va_S A s.heap H locs) (isP isT : List Nat) (h1 : isP.map (fun i => ws[i]?) = (w1 u).map some) (hn : va_nd isP = true) (h3 : isT.filterMap (fun i => tys[i]?) = t1 u)
    (hdg : decode cc pc = .ok (.ireturn, 1)) (hc : cells ≤ mc) (hs : slots ≤ ms) : W p l e R s m args below meth c H locs cells slots (MQ below (QW (.returned (some (.int v))) D w1 t1 A) args s mc ms A) (F0 m pc ls [.int v]) :=
  W.widen hc hs (W.iret hx hb hr (fun t ht hW => ⟨rfl, hS.F ht, u, by rw [ht]; exact hP.sub isP (fm_map h1), va_K.moved hW.alike (hK.sub isT h3), hD.sub isP hn h1⟩) hS.2.2 hdg hlocks)
theorem q_zret {S : Type} {w1 : S → va_W} {t1 : S → List (ClassId × FieldType)} {v : Int32} (u : S) (hx : p.tables.exec = Jvm.exec) (hb : c.code = cc) (hr : meth.sig.returnType = some .boolean) (hlocks : meth.locks = false) (hnv : narrow .boolean (.int v) = .int v)
    (hP : va_P D vwCl ws H) (hK : va_K D vwCl tys s) (hD : va_D A ws) (hS : va_S A s.heap H locs) (isP isT : List Nat) (h1 : isP.map (fun i => ws[i]?) = (w1 u).map some) (hn : va_nd isP = true) (h3 : isT.filterMap (fun i => tys[i]?) = t1 u)
    (hdg : decode cc pc = .ok (.ireturn, 1)) (hc : cells ≤ mc) (hs : slots ≤ ms) : W p l e R s m args below meth c H locs cells slots (MQ below (QW (.returned (some (.int v))) D w1 t1 A) args s mc ms A) (F0 m pc ls [.int v]) :=
  W.widen hc hs (W.zret hx hb hr hnv (fun t ht hW => ⟨rfl, hS.F ht, u, by rw [ht]; exact hP.sub isP (fm_map h1), va_K.moved hW.alike (hK.sub isT h3), hD.sub isP hn h1⟩) hS.2.2 hdg hlocks)
theorem q_vret {S : Type} {w1 : S → va_W} {t1 : S → List (ClassId × FieldType)} (u : S) (hx : p.tables.exec = Jvm.exec) (hb : c.code = cc) (hr : meth.sig.returnType = none) (hlocks : meth.locks = false)
    (hP : va_P D vwCl ws H) (hK : va_K D vwCl tys s) (hD : va_D A ws) (hS : va_S A s.heap H locs) (isP isT : List Nat) (h1 : isP.map (fun i => ws[i]?) = (w1 u).map some) (hn : va_nd isP = true) (h3 : isT.filterMap (fun i => tys[i]?) = t1 u)
    (hdg : decode cc pc = .ok (.return_, 1)) (hc : cells ≤ mc) (hs : slots ≤ ms) : W p l e R s m args below meth c H locs cells slots (MQ below (QW (.returned none) D w1 t1 A) args s mc ms A) (F0 m pc ls []) :=
  W.widen hc hs (W.vret hx hb hr (fun t ht hW => ⟨rfl, hS.F ht, u, by rw [ht]; exact hP.sub isP (fm_map h1), va_K.moved hW.alike (hK.sub isT h3), hD.sub isP hn h1⟩) hS.2.2 hdg hlocks)
theorem r_iret {v : Int32} {F : Addr → Prop} (hx : p.tables.exec = Jvm.exec) (hb : c.code = cc) (hr : meth.sig.returnType = some .int) (hlocks : meth.locks = false) (hdg : decode cc pc = .ok (.ireturn, 1)) :
    W p l e R s m args below meth c s.heap [] 0 0 (MQ below (QcRead v) args s 0 0 F) (F0 m pc ls [.int v]) := W.iret hx hb hr (fun t ht hW => ⟨rfl, ht⟩) (fun q h => nomatch h) hdg hlocks
theorem r_zret {v : Int32} {F : Addr → Prop} (hx : p.tables.exec = Jvm.exec) (hb : c.code = cc) (hr : meth.sig.returnType = some .boolean) (hlocks : meth.locks = false) (hnv : narrow .boolean (.int v) = .int v) (hdg : decode cc pc = .ok (.ireturn, 1)) :
    W p l e R s m args below meth c s.heap [] 0 0 (MQ below (QcRead v) args s 0 0 F) (F0 m pc ls [.int v]) := W.zret hx hb hr hnv (fun t ht hW => ⟨rfl, ht⟩) (fun q h => nomatch h) hdg hlocks
theorem r_zretE {v r : Int32} {F : Addr → Prop} (hv : v = r) (hx : p.tables.exec = Jvm.exec) (hb : c.code = cc) (hr : meth.sig.returnType = some .boolean) (hlocks : meth.locks = false) (hnv : narrow .boolean (.int v) = .int v) (hdg : decode cc pc = .ok (.ireturn, 1)) :
    W p l e R s m args below meth c s.heap [] 0 0 (MQ below (QcRead r) args s 0 0 F) (F0 m pc ls [.int v]) := by subst hv; exact r_zret hx hb hr hlocks hnv hdg
theorem r_vret {F : Addr → Prop} (hx : p.tables.exec = Jvm.exec) (hb : c.code = cc) (hr : meth.sig.returnType = none) (hlocks : meth.locks = false) (hdg : decode cc pc = .ok (.return_, 1)) :
    W p l e R s m args below meth c s.heap [] 0 0 (MQ below QcV args s 0 0 F) (F0 m pc ls []) := W.vret hx hb hr (fun t ht hW => ⟨rfl, ht⟩) (fun q h => nomatch h) hdg hlocks
/-- behind a call: the callee's world beside the rest -/
theorem q_run {S : Type} {w1 : S → va_W} {t1 : S → List (ClassId × FieldType)} {o : Option Value} {wc wr : va_W} {a : Array Value}
    (hr : va_Run p l e R s m args below meth c H locs cells slots mc ms (F0 m pc ls st) rest (QW (.returned o) D w1 t1 (va_A wc H.size) a) (va_A wc H.size))
    (hP : va_P D vwCl ws H) (hK : va_K D vwCl tys s) (hD : va_D A ws) (hS : va_S A s.heap H locs) (hA : ∀ q : Nat, s.heap.size ≤ q → A q) (isC isR : List Nat) (hC : isC.map (fun i => ws[i]?) = wc.map some) (hR : isR.map (fun i => ws[i]?) = wr.map some) (hn : va_nd isR = true) (hdis : ∀ i ∈ isR, i ∉ isC)
    (k : ∀ (u : S) (H1 : Heap) (locs1 : List Loc), va_P D vwCl (wr ++ w1 u) H1 → va_K D vwCl (tys ++ t1 u) s → va_D A (wr ++ w1 u) → va_S A s.heap H1 locs1 → W p l e R s m args below meth c H1 locs1 (cells + mc) (slots + ms) Q (F0 m (pc + 3) ls (o.toList ++ rest))) :
    W p l e R s m args below meth c H locs cells slots Q (F0 m pc ls st) := by
  intro T hT X
  obtain ⟨v, st₀, t, T', L, h0, X', hL, e1, e2, ⟨hv, hF, u, hP1, hK1, hD1⟩, stp⟩ := hr T hT X
  cases hv
  have hf := va_free hD hS hA isC hC
  obtain ⟨k1, k2, k3⟩ := vx_keep h0 e1 hS (fun q _ h => hf q h) hf hL hF
  obtain ⟨jP, jD⟩ := va_join hP hD isC isR hC hR hn hdis k2 hf (by rw [e1]; exact hP1) hD1
  have hal : t.vm.Alike s.vm := by rw [← e2]; exact X'.warmed.alike.symm
  obtain ⟨t2, a1, b1⟩ := k u T'.heap (locs ++ L) jP (hK.app (va_K.moved hal hK1)) jD k3 T' rfl X'
  exact ⟨t2, stp t2 a1, b1⟩
/-- behind a call that only reads -/
theorem q_runR {r : Int32} {F : Addr → Prop} {a : Array Value} (hr : va_Run p l e R s m args below meth c H locs cells slots 0 0 (F0 m pc ls st) rest (QcRead r a) F) (hS : va_S A s.heap H locs) (hf : ∀ q, F q → A q)
    (k : ∀ locs1 : List Loc, va_S A s.heap H locs1 → W p l e R s m args below meth c H locs1 cells slots Q (F0 m (pc + 3) ls (.int r :: rest))) : W p l e R s m args below meth c H locs cells slots Q (F0 m pc ls st) := by
  intro T hT X
  obtain ⟨v, st₀, t, T', L, h0, X', hL, e1, e2, ⟨hv, hh⟩, stp⟩ := hr T hT X
  cases hv
  obtain ⟨t2, a1, b1⟩ := k (locs ++ L) ⟨hS.1, hS.2.1, fun q hq => (List.mem_append.mp hq).elim (hS.2.2 q) (fun h => hf _ (hL q h))⟩ T' (by rw [e1, hh, h0]) X'
  exact ⟨t2, stp t2 a1, b1⟩
/-- behind a call of a function of its arguments -/
theorem q_runP {r : Int32} {a : Array Value} (hr : va_Run p l e R s m args below meth c H locs cells slots 0 0 (F0 m pc ls st) rest (QcRead r a) (fun _ => False))
    (k : W p l e R s m args below meth c H locs cells slots Q (F0 m (pc + 3) ls (.int r :: rest))) : W p l e R s m args below meth c H locs cells slots Q (F0 m pc ls st) := by
  intro T hT X
  obtain ⟨v, st₀, t, T', L, h0, X', hL, e1, e2, ⟨hv, hh⟩, stp⟩ := hr T hT X
  cases hv
  obtain ⟨t2, a1, b1⟩ := k T' (by rw [e1, hh, h0]) (Stand.forget X' (fun q h => (hL q h).elim))
  exact ⟨t2, stp t2 a1, b1⟩
theorem q_runPv {a : Array Value} (hr : va_Run p l e R s m args below meth c H locs cells slots 0 0 (F0 m pc ls st) rest (QcV a) (fun _ => False))
    (k : W p l e R s m args below meth c H locs cells slots Q (F0 m (pc + 3) ls rest)) : W p l e R s m args below meth c H locs cells slots Q (F0 m pc ls st) := by
  intro T hT X
  obtain ⟨v, st₀, t, T', L, h0, X', hL, e1, e2, ⟨hv, hh⟩, stp⟩ := hr T hT X
  cases hv
  obtain ⟨t2, a1, b1⟩ := k T' (by rw [e1, hh, h0]) (Stand.forget X' (fun q h => (hL q h).elim))
  exact ⟨t2, stp t2 a1, b1⟩
/-- a callee's world at its start -/
theorem SP.pre {as : List Value} {wc : va_W} {tysc : List (ClassId × FieldType)} (hP : va_P D vwCl ws H) (hK : va_K D vwCl tys s) (hD : va_D A ws) (hE : EN0 s) (isC isT : List Nat) (hC : isC.map (fun i => ws[i]?) = wc.map some) (hnC : va_nd isC = true) (hT : isT.filterMap (fun i => tys[i]?) = tysc) :
    PreS s H (SP D as wc tysc H.size) as :=
  ⟨SP.blind, fun U hU hW => ⟨rfl, by rw [hU], by rw [hU]; exact hP.sub isC (fm_map hC), va_K.moved hW.alike (hK.sub isT hT), (hD.sub isC hnC hC).weaken (fun _ _ _ _ => trivial), hE.warm hW⟩⟩
theorem SPx.pre {as : List Value} {wc : va_W} {tysc : List (ClassId × FieldType)} (hP : va_P D vwCl ws H) (hK : va_K D vwCl tys s) (hD : va_D A ws) (hE : EN0 s) (hZ : EZ A s s.heap) (hS : va_S A s.heap H locs) (hA : ∀ q : Nat, s.heap.size ≤ q → A q) (isC isT : List Nat) (hC : isC.map (fun i => ws[i]?) = wc.map some) (hnC : va_nd isC = true) (hT : isT.filterMap (fun i => tys[i]?) = tysc) :
    PreS s H (SPx D as wc tysc H.size) as :=
  ⟨SPx.blind, fun U hU hW => ⟨rfl, by rw [hU], by rw [hU]; exact hP.sub isC (fm_map hC), va_K.moved hW.alike (hK.sub isT hT), (hD.sub isC hnC hC).weaken (fun _ _ _ _ => trivial), hE.warm hW, hZ.pass hS (va_free hD hS hA isC hC) hU hW⟩⟩
theorem q_recv {wc : va_W} {b ci i : Nat} {r : vw_C} {fs : List Value} (hP : va_P D vwCl ws H) (hK : va_K D vwCl tys s) (hc : vwCl[ci]? = some r) (hi : ws[i]? = some (b, .inr (ci, fs))) : ∃ cell : Cell, H[b]? = some cell ∧ cell.vm.isStatics = false ∧ s.vm.findClass r.1 = some cell.cls := va_recv hK hP hc hi
/-- a callee that throws, and nothing here catches it -/
theorem q_xout {E : String} {B : Nat → Prop} {a : Array Value} {mc' ms' : Nat} (hr : vx_Run p l e R s m args below meth c H locs cells slots mc ms (F0 m pc ls st) rest (QNo a) (XQ E B) B)
    (hS : va_S A s.heap H locs) (hB : ∀ q, B q → A q) (htab : ∀ x ∈ c.exceptionTable.toList, False) (hlocks : meth.locks = false) (hc : cells + mc ≤ mc') (hs : slots + ms ≤ ms') :
    W p l e R s m args below meth c H locs cells slots (vx_MQ below QNo (XQ E A) args s mc' ms' A) (F0 m pc ls st) := by
  intro T hT X
  rcases hr T hT X with ⟨v, st₀, t, T', L, h0, X', hL, e1, e2, hq, stp⟩ | ⟨q, st₀, t, T', L, E', ce, h0, X', hL, e1, e2, ⟨hE, hF⟩, hce, hcv, hcl, stp⟩
  · exact hq.elim
  · subst hE
    obtain ⟨k1, k2, k3⟩ := vx_keep h0 e1 hS (fun q _ h => hB q h) hB hL hF
    obtain ⟨t2, a1, b1⟩ := vx_out (Qc := QNo) (XC := XQ E' A) (ls := ls) (rest := rest) (pc := pc) (mc := mc') (ms := ms') (free := A) (fun x hx => (htab x hx).elim) hlocks (by rw [e1]; exact hce) hcv hcl (fun t ht _ => ⟨rfl, k3.F ht⟩) k3.2.2 hc hs T' rfl X'
    exact ⟨t2, stp.trans a1, b1⟩
/-- a callee that throws, caught by the first row of this method's table -/
theorem q_xin {E own : String} {wc wr : va_W} {a : Array Value} {hh : List (Nat × Nat × Nat × Nat)} {x : Nat × Nat × Nat × Nat} (hr : vx_Run p l e R s m args below meth c H locs cells slots mc ms (F0 m pc ls st) rest (QNo a) (XQ E (va_A wc H.size)) (va_A wc H.size))
    (hP : va_P D vwCl ws H) (hD : va_D A ws) (hS : va_S A s.heap H locs) (hA : ∀ q : Nat, s.heap.size ≤ q → A q) (isC isR : List Nat) (hC : isC.map (fun i => ws[i]?) = wc.map some) (hR : isR.map (fun i => ws[i]?) = wr.map some) (hn : va_nd isR = true) (hdis : ∀ i ∈ isR, i ∉ isC)
    (htab : c.exceptionTable.toList = tableOf (x :: hh)) (hx : (decide (x.1 ≤ pc) && decide (pc < x.2.1)) = true) (h0 : x.2.2.2 ≠ 0) (hown : s.vm.findClass own = some m.cls) (hlink : (Cond.classLink own x.2.2.2 E).before args s = true) (hcast : (Cond.castable E E).before args s = true)
    (k : ∀ (q : Addr) (H1 : Heap) (locs1 : List Loc), va_P D vwCl wr H1 → va_D A wr → va_S A s.heap H1 locs1 → W p l e R s m args below meth c H1 locs1 (cells + mc) (slots + ms) Q (F0 m x.2.2.1 ls [.ref q])) :
    W p l e R s m args below meth c H locs cells slots Q (F0 m pc ls st) := by
  intro T hT X
  rcases hr T hT X with ⟨v, st₀, t, T', L, h0', X', hL, e1, e2, hq, stp⟩ | ⟨q, st₀, t, T', L, E', ce, h0', X', hL, e1, e2, ⟨hE, hF⟩, hce, hcv, hcl, stp⟩
  · exact hq.elim
  · subst hE
    have hf := va_free hD hS hA isC hC
    obtain ⟨k1, k2, k3⟩ := vx_keep h0' e1 hS (fun q _ h => hf q h) hf hL hF
    obtain ⟨jP, jD⟩ := va_join (w1 := []) hP hD isC isR hC hR hn hdis k2 hf (fun k q h => by simp at h) ⟨fun i j p q h => by simp at h, fun k q h => by simp at h⟩
    rw [List.append_nil] at jP jD
    obtain ⟨t2, a1, b1⟩ := cx_catch (ls := ls) (rest := rest) (pc := pc) (Q := Q) hown (⟨x.1, x.2.1, x.2.2.1, x.2.2.2⟩ : ExceptionTableEntry) (tableOf hh) htab hx h0 hlink hcast (by rw [e1]; exact hce) hcv hcl (k q T'.heap (locs ++ L) jP jD k3) T' rfl X'
    exact ⟨t2, stp.trans a1, b1⟩
end Ends2
