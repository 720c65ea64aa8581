/-! ===== the law's frame ===== -/
def LC (p : Program) (s : State) (m : MethodId) (meth : Method) (c : Code) (b : Nat) (xs : Nat → Int32) : Prop :=
  p.tables.exec = Jvm.exec ∧ c.code = code ∧ meth.sig.returnType = ret ∧ c.maxLocals = 7 ∧ s.vm.findClass RL = some m.cls ∧ (∀ w ∈ wT, w.before #[Value.ref b] s = true) ∧ meth.locks = false ∧ va_X b 7 xs s s.heap ∧ b < s.heap.size ∧ EN0 s ∧ EZ (fun q => s.heap.size ≤ q) s s.heap
theorem law_end (l : Launch) {p : Program} {e : Env} {s : State} {m : MethodId} {below : List Frame} {meth : Method} {c : Code} {b : Nat} {xs : Nat → Int32} {H : Heap} {locs : List Loc} {ls : Array Slot} {cells slots : Nat} (hC : LC p s m meth c b xs) (hS : va_S (fun q => s.heap.size ≤ q) s.heap H locs) (hl : lv_has ls 7 [(4, .int 0), (0, .ref b)]) (hc : cells ≤ 600002) (hs : slots ≤ 7302232) :
    W p l e room_1 s m #[Value.ref b] below meth c H locs cells slots (lw_Z below #[Value.ref b] s) (F0 m 2374 ls []) := by
  obtain ⟨hx, hb, hr, hml, hown, hts, hlocks, hX, hbl, hE, hZ⟩ := hC
  have hbA : ¬ (fun q : Nat => s.heap.size ≤ q) b := Nat.not_le.mpr hbl
  refine lv_iinc (v := 7) (lv' := [(4, .int 7), (0, .ref b)]) hx hb dL_law_2374 hl (k := 0) rfl (by decide +kernel) (by decide) rfl (fun ls hl => ?_)
  refine lv_goto (tgt := 23) hx hb dL_law_2377 (by decide) ?_
  refine lv_iload hx hb dL_law_23 (lv_at hl 0 rfl) ?_
  refine lv_aload_n hx hb dL_law_25 rfl (lv_at hl 1 rfl) ?_
  refine va_slen hx hb hX hbl hbA hS dL_law_26 ?_
  refine lv_lit (v := 7) (by decide +kernel) ?_
  refine lv_bipush (v := 7) hx hb dL_law_27 (by decide) ?_
  refine lv_isub hx hb dL_law_29 ?_
  refine lv_lit (v := 0) (by decide +kernel) ?_
  refine lv_icmp_gt (tgt := 2380) hx hb dL_law_30 (by decide) (fun _ => ?_) (fun c9 => absurd (by decide +kernel) c9)
  refine lv_iconst (v := 1) hx hb dL_law_2380 (by decide) ?_
  refine va_forget (fun q hq => hS.2.2 q hq) ?_
  exact W.widen hc hs (lw_ret hx hb hr hlocks dL_law_2381)
theorem Lsmall {L : Nat} (h : L < 7) : (Int32.ofNat L - 7) < 0 := by
  rcases (by omega : L = 0 ∨ L = 1 ∨ L = 2 ∨ L = 3 ∨ L = 4 ∨ L = 5 ∨ L = 6) with rfl | rfl | rfl | rfl | rfl | rfl | rfl <;> decide +kernel
theorem sw_split {v : Int32} (h : ¬ pOut v 0 32) : ∃ k : Nat, k < 33 ∧ v = Int32.ofNat k := by
  unfold pOut at h
  refine ⟨v.toInt.toNat, by omega, Int32.toInt_inj.mp ?_⟩
  have h1 : (0 : Int) ≤ v.toInt := by omega
  have h2 : v.toInt < 33 := by omega
  rw [Int32.toInt_ofNat_of_lt (by omega)]
  omega
/-- what is known of the classes -/
theorem mkD {s : State} {cl : List vw_C} (h : ∀ (c : Nat) (q : vw_C), cl[c]? = some q → ∃ z : ClassId × (Nat → Nat), u_Kn s q.1 q.2.1 q.2.2 z.1 z.2) : ∃ D : va_G, va_K D cl [] s := by
  have h1 : ∀ c : Nat, ∃ z : ClassId × (Nat → Nat), ∀ q : vw_C, cl[c]? = some q → u_Kn s q.1 q.2.1 q.2.2 z.1 z.2 := by
    intro c
    cases hc : cl[c]? with
    | none => exact ⟨(0, fun _ => 0), fun q hq => by cases hq⟩
    | some q0 =>
      obtain ⟨z, hz⟩ := h c q0 hc
      exact ⟨z, fun q hq => by cases hq; exact hz⟩
  exact ⟨(fun c => (Classical.choose (h1 c)).1, fun c => (Classical.choose (h1 c)).2), fun c q hq => Classical.choose_spec (h1 c) q hq, fun k q hk => by simp at hk⟩
