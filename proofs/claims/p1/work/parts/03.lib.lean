/-! ===== the words: one list for every contract ===== -/
def wT : List Cond := lw_tbl.filter goodWord
theorem wT_in {w : Cond} (h : w ∈ lw_tbl) (g : goodWord w = true) : w ∈ wT := List.mem_filter.mpr ⟨h, g⟩
theorem wT_good {w : Cond} (h : w ∈ wT) : goodWord w = true := (List.mem_filter.mp h).2
theorem wT_tbl {w : Cond} (h : w ∈ wT) : w ∈ lw_tbl := (List.mem_filter.mp h).1
theorem tb_1 {w : Cond} (i : Nat) (h : tables_1_1[i]? = some w) : w ∈ lw_tbl := List.mem_append_right _ (List.mem_append_left _ (List.mem_of_getElem? h))
theorem tb_2 {w : Cond} (i : Nat) (h : tables_1_2[i]? = some w) : w ∈ lw_tbl := List.mem_append_right _ (List.mem_append_right _ (List.mem_append_left _ (List.mem_of_getElem? h)))
theorem tb_3 {w : Cond} (i : Nat) (h : tables_1_3[i]? = some w) : w ∈ lw_tbl := List.mem_append_right _ (List.mem_append_right _ (List.mem_append_right _ (List.mem_append_left _ (List.mem_of_getElem? h))))
theorem tb_4 {w : Cond} (i : Nat) (h : tables_1_4[i]? = some w) : w ∈ lw_tbl := List.mem_append_right _ (List.mem_append_right _ (List.mem_append_right _ (List.mem_append_right _ (List.mem_append_left _ (List.mem_of_getElem? h)))))
theorem tb_5 {w : Cond} (i : Nat) (h : tables_1_5[i]? = some w) : w ∈ lw_tbl := List.mem_append_right _ (List.mem_append_right _ (List.mem_append_right _ (List.mem_append_right _ (List.mem_append_right _ (List.mem_append_left _ (List.mem_of_getElem? h))))))
theorem tb_6 {w : Cond} (i : Nat) (h : tables_1_6[i]? = some w) : w ∈ lw_tbl := List.mem_append_right _ (List.mem_append_right _ (List.mem_append_right _ (List.mem_append_right _ (List.mem_append_right _ (List.mem_append_right _ (List.mem_append_left _ (List.mem_of_getElem? h)))))))
theorem tb_7 {w : Cond} (i : Nat) (h : tables_1_7[i]? = some w) : w ∈ lw_tbl := List.mem_append_right _ (List.mem_append_right _ (List.mem_append_right _ (List.mem_append_right _ (List.mem_append_right _ (List.mem_append_right _ (List.mem_append_right _ (List.mem_append_left _ (List.mem_of_getElem? h))))))))
theorem tb_8 {w : Cond} (i : Nat) (h : tables_1_8[i]? = some w) : w ∈ lw_tbl := List.mem_append_right _ (List.mem_append_right _ (List.mem_append_right _ (List.mem_append_right _ (List.mem_append_right _ (List.mem_append_right _ (List.mem_append_right _ (List.mem_append_right _ (List.mem_append_left _ (List.mem_of_getElem? h)))))))))
theorem tb_9 {w : Cond} (i : Nat) (h : tables_1_9[i]? = some w) : w ∈ lw_tbl := List.mem_append_right _ (List.mem_append_right _ (List.mem_append_right _ (List.mem_append_right _ (List.mem_append_right _ (List.mem_append_right _ (List.mem_append_right _ (List.mem_append_right _ (List.mem_append_right _ (List.mem_of_getElem? h)))))))))
theorem tb_s {w : Cond} (i : Nat) (h : (k2_sels lw_privs)[i]? = some w) : w ∈ lw_tbl := List.mem_append_left _ (List.mem_of_getElem? h)
theorem gT {d : Cond} (h : d ∈ wT) : GoodIn wT (d :: wT) := fun w hw => (List.mem_cons.mp hw).elim (fun e => by rw [e]; exact ⟨h, good_of_word (wT_good h)⟩) (fun h' => ⟨h', good_of_word (wT_good h')⟩)
theorem gTV {d : Cond} {own C : String} {i : Nat} {y : MethodName} (h : d ∈ wT) (h1 : Cond.methodLink own i y ∈ wT) (h2 : Cond.instanceMethod y ∈ wT) (h3 : Cond.selects C y y ∈ wT) (h4 : Cond.initialized C ∈ wT) : GoodIn wT (wsV own i C y (d :: wT)) := by
  intro w hw
  unfold wsV at hw
  rcases List.mem_append.mp hw with h' | h'
  · simp only [List.mem_cons, List.not_mem_nil, or_false] at h'
    rcases h' with rfl | rfl | rfl | rfl
    · exact ⟨h1, good_of_word (wT_good h1)⟩
    · exact ⟨h2, good_of_word (wT_good h2)⟩
    · exact ⟨h3, good_of_word (wT_good h3)⟩
    · exact ⟨h4, good_of_word (wT_good h4)⟩
  · exact gT h w h'
theorem gTS {d : Cond} {own : String} {i : Nat} {y : MethodName} (h : d ∈ wT) (h1 : Cond.methodLink own i y ∈ wT) (h2 : Cond.static y ∈ wT) (h4 : Cond.initialized own ∈ wT) : GoodIn wT (wsS own i y (d :: wT)) := by
  intro w hw
  unfold wsS at hw
  rcases List.mem_append.mp hw with h' | h'
  · simp only [List.mem_cons, List.not_mem_nil, or_false] at h'
    rcases h' with rfl | rfl | rfl
    · exact ⟨h1, good_of_word (wT_good h1)⟩
    · exact ⟨h2, good_of_word (wT_good h2)⟩
    · exact ⟨h4, good_of_word (wT_good h4)⟩
  · exact gT h w h'
theorem gTvS {d : Cond} {own : String} {i : Nat} {y : MethodName} (h : d ∈ wT) (h1 : Cond.methodLink own i y ∈ wT) (h2 : Cond.static y ∈ wT) (h4 : Cond.initialized y.cls ∈ wT) : GoodIn wT (va_wsS own i y (d :: wT)) := by
  intro w hw
  unfold va_wsS at hw
  rcases List.mem_append.mp hw with h' | h'
  · simp only [List.mem_cons, List.not_mem_nil, or_false] at h'
    rcases h' with rfl | rfl | rfl
    · exact ⟨h1, good_of_word (wT_good h1)⟩
    · exact ⟨h2, good_of_word (wT_good h2)⟩
    · exact ⟨h4, good_of_word (wT_good h4)⟩
  · exact gT h w h'
/-! ===== what every method's start keeps: the words that aren't good, by the state itself ===== -/
def nbw : Cond → Bool
  | .methodLinkNest .. => true
  | .fieldLinkNest .. => true
  | .declares _ => true
  | .castable .. => true
  | _ => false
theorem nbw_warm {w : Cond} {s U : State} (hw : nbw w = true) (hW : s.WarmedH U.vm) (h : va_Nw w s) : va_Nw w U := by
  cases w <;> first | exact va_Nw.warmM hW h | exact va_Nw.warmF hW h | exact va_Nw.warmD hW h | exact va_Nw.warmC hW h | exact absurd hw (by simp [nbw])
def EN0 (U : State) : Prop := (∀ w ∈ lw_tbl, nbw w = true → va_Nw w U) ∧ (∃ sa, vk_R RX11 371 "an argument is none such" sa U) ∧ (∃ sa, vk_R RX11 376 "no such balloon" sa U) ∧ va_AO "BalloonHouse$Balloon" U ∧ va_AO "BalloonHouse$Zone" U ∧ va_AO "BalloonHouse$Craft" U ∧ va_AO "BalloonHouse$Forecast" U
theorem EN0.warm {s U : State} (hW : s.WarmedH U.vm) (h : EN0 s) : EN0 U := by
  obtain ⟨h1, ⟨a, h2⟩, ⟨b, h3⟩, h4, h5, h6, h7⟩ := h
  exact ⟨fun w hw hn => nbw_warm hn hW (h1 w hw hn), ⟨a, vk_R.warm hW h2⟩, ⟨b, vk_R.warm hW h3⟩, h4.moved hW.alike, h5.moved hW.alike, h6.moved hW.alike, h7.moved hW.alike⟩
/-- the two statics that a throw reads -/
def EZ (A : Nat → Prop) (U : State) (H : Heap) : Prop := vx_Zq Bundle.tN "UNASSIGNED_STACK" Bundle.steD A U H ∧ vx_Zq Bundle.tN "SUPPRESSED_SENTINEL" Bundle.listD A U H
theorem EZ.pass {A B : Nat → Prop} {s U : State} {H : Heap} {locs : List Loc} (h : EZ A s s.heap) (hS : va_S A s.heap H locs) (hF : ∀ q, B q → A q) (hU : U.heap = H) (hW : s.WarmedH U.vm) : EZ B U U.heap := by
  rw [hU]
  exact ⟨vx_Zq.narrow (vx_Zq.moved hW.alike (h.1.kept hS.2.1)) hF, vx_Zq.narrow (vx_Zq.moved hW.alike (h.2.kept hS.2.1)) hF⟩
/-! ===== truth values ===== -/
noncomputable def bz (p : Prop) : Int32 := @ite Int32 p (Classical.propDecidable p) 1 0
theorem bz_t {p : Prop} (h : p) : bz p = 1 := by unfold bz; exact if_pos h
theorem bz_f {p : Prop} (h : ¬ p) : bz p = 0 := by unfold bz; exact if_neg h
theorem bz_p {p : Prop} (h : ¬ bz p = 0) : p := by
  rcases Classical.em p with q | q
  · exact q
  · exact absurd (bz_f q) h
theorem bz_n {p : Prop} (h : bz p = 0) : ¬ p := by
  intro q
  rw [bz_t q] at h
  exact absurd h (by decide)
/-! ===== starts ===== -/
def SP (D : va_G) (as : List Value) (ws : va_W) (tys : List (ClassId × FieldType)) (sz : Nat) : Array Value → State → Prop :=
  va_Pc as (fun U => U.heap.size = sz ∧ va_P D vwCl ws U.heap ∧ va_K D vwCl tys U ∧ va_D (fun _ => True) ws ∧ EN0 U)
def SPx (D : va_G) (as : List Value) (ws : va_W) (tys : List (ClassId × FieldType)) (sz : Nat) : Array Value → State → Prop :=
  va_Pc as (fun U => U.heap.size = sz ∧ va_P D vwCl ws U.heap ∧ va_K D vwCl tys U ∧ va_D (fun _ => True) ws ∧ EN0 U ∧ EZ (va_A ws sz) U U.heap)
theorem SP.blind {D : va_G} {as : List Value} {ws : va_W} {tys : List (ClassId × FieldType)} {sz : Nat} : FrameBlind (SP D as ws tys sz) := by
  intro a U g mk q
  obtain ⟨q0, q1, qP, qK, qD, qE⟩ := q
  exact ⟨q0, q1, qP, va_K.moved (u := U) (U := U.calling g mk a) (Vm.Alike.refl U.vm) qK, qD, EN0.warm (s := U) (U := U.calling g mk a) (State.WarmedH.refl U) qE⟩
theorem SPx.blind {D : va_G} {as : List Value} {ws : va_W} {tys : List (ClassId × FieldType)} {sz : Nat} : FrameBlind (SPx D as ws tys sz) := by
  intro a U g mk q
  obtain ⟨q0, q1, qP, qK, qD, qE, qZ⟩ := q
  exact ⟨q0, q1, qP, va_K.moved (u := U) (U := U.calling g mk a) (Vm.Alike.refl U.vm) qK, qD, EN0.warm (s := U) (U := U.calling g mk a) (State.WarmedH.refl U) qE, ⟨vx_Zq.moved (u := U) (U := U.calling g mk a) (Vm.Alike.refl U.vm) qZ.1, vx_Zq.moved (u := U) (U := U.calling g mk a) (Vm.Alike.refl U.vm) qZ.2⟩⟩
/-- what a method's end says: the outcome, the frame, a world -/
def QW (o0 : Outcome) (D : va_G) {S : Type} (w1 : S → va_W) (t1 : S → List (ClassId × FieldType)) (A : Nat → Prop) : Array Value → State → Outcome → State → Prop := fun _ st o t =>
  o = o0 ∧ va_F A st t ∧ ∃ u : S, va_P D vwCl (w1 u) t.heap ∧ va_K D vwCl (t1 u) t ∧ va_D A (w1 u)
def QcV : Array Value → State → Outcome → State → Prop := fun _ st o t => o = .returned none ∧ t.heap = st.heap
def XQ (E : String) (A : Nat → Prop) : String → State → State → Prop := fun E' st t => E' = E ∧ va_F A st t
def QNo : Array Value → State → Outcome → State → Prop := fun _ _ _ _ => False
theorem fm_map {α : Type} {is : List Nat} {ws wc : List α} (h : is.map (fun i => ws[i]?) = wc.map some) : is.filterMap (fun i => ws[i]?) = wc := by
  induction is generalizing wc with
  | nil =>
    cases wc with
    | nil => rfl
    | cons a b => simp at h
  | cons i r ih =>
    cases wc with
    | nil => simp at h
    | cons a b =>
      simp only [List.map_cons, List.cons.injEq] at h
      rw [List.filterMap_cons, h.1]
      simp only [ih h.2]
section Starts
variable {l : Launch} {y : MethodName} {cc : ByteArray} {maxL : Nat} {ret : Option FieldType} {rm : Room} {D : va_G} {as : List Value} {ws : va_W} {tys : List (ClassId × FieldType)} {sz mc ms : Nat}
theorem SP.start {Qf : (Nat → Prop) → Array Value → State → Outcome → State → Prop} (hy : plainName y.cls = true) (hlen : (lg_sl as).length ≤ maxL)
    (body : ∀ (p : Program) (e : Env) (s : State) (m : MethodId) (below : List Frame) (meth : Method) (c : Code) (ls : Array Slot) (A : Nat → Prop), p.tables.exec = Jvm.exec → c.code = cc → meth.sig.returnType = ret → c.maxLocals = maxL → s.vm.findClass y.cls = some m.cls → (∀ w ∈ wT, w.before as.toArray s = true) → meth.locks = false → meth.name = y.name →
      (∀ q : Nat, s.heap.size ≤ q → A q) → va_P D vwCl ws s.heap → va_K D vwCl tys s → va_D A ws → EN0 s → lv_has ls maxL (lv_args 0 as) → va_S A s.heap s.heap [] →
      W p l e rm s m as.toArray below meth c s.heap [] 0 0 (MQ below (Qf A) as.toArray s mc ms A) (F0 m 0 ls [])) :
    Met l y (.code y cc maxL ret :: wT) rm (SP D as ws tys sz) (Qf (va_A ws sz)) mc ms (va_A ws sz) := by
  refine Met.ofW (cc := cc) (maxL := maxL) (ret := ret) hy rfl ?_
  intro p e s m args below meth c s₁ B hml hv
  obtain ⟨rfl, hsz, hP, hK, hD0, hE⟩ := hv
  rw [lg_entry_eq]
  exact body p e s m below meth c _ (va_A ws sz) B.exec B.bytes B.returns hml (findClass_of_methodNamed B.named) (fun w hw => atoms_spec (ws := .code y cc maxL ret :: wT) B.pre w (List.mem_cons_of_mem _ hw)) B.notSynchronized (name_of_methodNamed B.named B.method).1
    (fun q h => Or.inr (by rw [← hsz]; exact h)) hP hK hD0.self hE (lv_entry as hlen) va_S.rf
theorem SPx.start (hy : plainName y.cls = true) (hlen : (lg_sl as).length ≤ maxL) {E : String}
    (body : ∀ (p : Program) (e : Env) (s : State) (m : MethodId) (below : List Frame) (meth : Method) (c : Code) (ls : Array Slot) (A : Nat → Prop), p.tables.exec = Jvm.exec → c.code = cc → meth.sig.returnType = ret → c.maxLocals = maxL → s.vm.findClass y.cls = some m.cls → (∀ w ∈ wT, w.before as.toArray s = true) → meth.locks = false → (∀ x ∈ c.exceptionTable.toList, False) →
      (∀ q : Nat, s.heap.size ≤ q → A q) → va_P D vwCl ws s.heap → va_K D vwCl tys s → va_D A ws → EN0 s → EZ A s s.heap → lv_has ls maxL (lv_args 0 as) → va_S A s.heap s.heap [] →
      W p l e rm s m as.toArray below meth c s.heap [] 0 0 (vx_MQ below QNo (XQ E A) as.toArray s mc ms A) (F0 m 0 ls [])) :
    vx_Met l y (.code y cc maxL ret :: wT) rm (SPx D as ws tys sz) QNo (XQ E (va_A ws sz)) mc ms (va_A ws sz) := by
  refine vx_ofW (cc := cc) (maxL := maxL) (ret := ret) hy rfl ?_
  intro p e s m args below meth c s₁ B hml htab hv
  obtain ⟨rfl, hsz, hP, hK, hD0, hE, hZ⟩ := hv
  rw [lg_entry_eq]
  exact body p e s m below meth c _ (va_A ws sz) B.exec B.bytes B.returns hml (findClass_of_methodNamed B.named) (fun w hw => atoms_spec (ws := .code y cc maxL ret :: wT) B.pre w (List.mem_cons_of_mem _ hw)) B.notSynchronized htab
    (fun q h => Or.inr (by rw [← hsz]; exact h)) hP hK hD0.self hE hZ (lv_entry as hlen) va_S.rf
/-- a method with a table of handlers, that returns -/
theorem SH.start {hh : List (Nat × Nat × Nat × Nat)} {Qf : (Nat → Prop) → Array Value → State → Outcome → State → Prop} (hy : plainName y.cls = true) (hlen : (lg_sl as).length ≤ maxL)
    (body : ∀ (p : Program) (e : Env) (s : State) (m : MethodId) (below : List Frame) (meth : Method) (c : Code) (ls : Array Slot) (A : Nat → Prop), p.tables.exec = Jvm.exec → c.code = cc → meth.sig.returnType = ret → c.maxLocals = maxL → s.vm.findClass y.cls = some m.cls → (∀ w ∈ wT, w.before as.toArray s = true) → meth.locks = false → c.exceptionTable.toList = tableOf hh →
      (∀ q : Nat, s.heap.size ≤ q → A q) → va_P D vwCl ws s.heap → va_K D vwCl tys s → va_D A ws → EN0 s → EZ A s s.heap → lv_has ls maxL (lv_args 0 as) → va_S A s.heap s.heap [] →
      W p l e rm s m as.toArray below meth c s.heap [] 0 0 (MQ below (Qf A) as.toArray s mc ms A) (F0 m 0 ls [])) :
    Met l y (.codeWith y cc maxL ret hh :: wT) rm (SPx D as ws tys sz) (Qf (va_A ws sz)) mc ms (va_A ws sz) := by
  refine MetFree.of_bodyS (code := cc) (maxLocals := maxL) (ret := ret) hy ?_ ?_
  · intro args s m h hn
    obtain ⟨m9, meth, c, hn9, h1, h2, h3, h4, -, h5, h6, -⟩ := Cond.codeWith_spec (atoms_spec (ws := .codeWith y cc maxL ret hh :: wT) h _ List.mem_cons_self)
    cases hn.symm.trans hn9
    exact ⟨meth, c, h1, h2, h3, h4, h5, h6⟩
  · intro p e s m args below meth c s₁ B hml hv _
    obtain ⟨rfl, hsz, hP, hK, hD0, hE, hZ⟩ := hv
    have hh0 : s₁.heap = s.heap := by rw [B.state]; rfl
    have hts := atoms_spec (ws := .codeWith y cc maxL ret hh :: wT) B.pre
    have K := body p e s m below meth c _ (va_A ws sz) B.exec B.bytes B.returns hml (findClass_of_methodNamed B.named) (fun w hw => hts w (List.mem_cons_of_mem _ hw)) B.notSynchronized (vx_table (x := y) B (hts _ List.mem_cons_self))
      (fun q h => Or.inr (by rw [← hsz]; exact h)) hP hK hD0.self hE hZ (lv_entry as hlen) va_S.rf
    rw [← lg_entry_eq] at K
    obtain ⟨t, a1, o, b1, b2, b3⟩ := K s₁ hh0 (Stand.of_body B)
    exact ⟨t, o, a1, b1, b2, b3⟩
/-- a static method that looks at its arguments alone -/
theorem PS.start {Qc : Array Value → State → Outcome → State → Prop} (hy : plainName y.cls = true) (hlen : (lg_sl as).length ≤ maxL)
    (body : ∀ (p : Program) (e : Env) (s : State) (m : MethodId) (below : List Frame) (meth : Method) (c : Code) (ls : Array Slot), p.tables.exec = Jvm.exec → c.code = cc → meth.sig.returnType = ret → c.maxLocals = maxL → s.vm.findClass y.cls = some m.cls → (∀ w ∈ wT, w.before as.toArray s = true) → meth.locks = false → lv_has ls maxL (lv_args 0 as) →
      W p l e rm s m as.toArray below meth c s.heap [] 0 0 (MQ below Qc as.toArray s 0 0 (fun _ => False)) (F0 m 0 ls [])) :
    Met l y (.code y cc maxL ret :: wT) rm (fun v _ => v = as.toArray) Qc 0 0 (fun _ => False) := by
  refine Met.ofW (cc := cc) (maxL := maxL) (ret := ret) hy rfl ?_
  intro p e s m args below meth c s₁ B hml hv
  subst hv
  rw [lg_entry_eq]
  exact body p e s m below meth c _ B.exec B.bytes B.returns hml (findClass_of_methodNamed B.named) (fun w hw => atoms_spec (ws := .code y cc maxL ret :: wT) B.pre w (List.mem_cons_of_mem _ hw)) B.notSynchronized (lv_entry as hlen)
end Starts
