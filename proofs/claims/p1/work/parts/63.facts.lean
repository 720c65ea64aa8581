theorem law_facts {p : Program} {s : State} {m : MethodId} {meth : Method} {c : Code} {b L : Nat} {xs : Nat → Int32} (C0 : lw_At p s m meth c b L xs) : EN0 s ∧ EZ (fun q => s.heap.size ≤ q) s s.heap ∧ ∃ D : va_G, va_K D vwCl [] s := by
  obtain ⟨hx, hb, hr, hml, hown, hts, hX, hbl, hlocks, hgv⟩ := C0
  have hgs := flat_of_before _ hgv
  have htw : ∀ w ∈ wT, w.before #[Value.ref b] s = true := fun w hw => hts w (wT_tbl hw)
  refine ⟨⟨fun w hw hn => va_Nw.of (by cases w <;> first | rfl | exact absurd hn (by simp [nbw])) (hts w hw), ?_, ?_, va_AO.of (hts (Cond.arrayOver (.object "BalloonHouse$Balloon")) (by decide +kernel)), va_AO.of (hts (Cond.arrayOver (.object "BalloonHouse$Zone")) (by decide +kernel)), va_AO.of (hts (Cond.arrayOver (.object "BalloonHouse$Craft")) (by decide +kernel)), va_AO.of (hts (Cond.arrayOver (.object "BalloonHouse$Forecast")) (by decide +kernel))⟩, ⟨?_, ?_⟩, ?_⟩
  · obtain ⟨cC, kC, hfc, -⟩ := Cond.instantiable_spec (htw _ kw1020)
    have hw : (Cond.stringRef RX11 371 "an argument is none such").before #[Value.ref b] s = true := hts _ (by decide +kernel)
    obtain ⟨-, -, -, sa, -, -, -, -, -, hev⟩ := Cond.stringRef_spec hfc hw
    exact ⟨sa, vk_R.of hw hev⟩
  · obtain ⟨cC, kC, hfc, -⟩ := Cond.instantiable_spec (htw _ kw1020)
    have hw : (Cond.stringRef RX11 376 "no such balloon").before #[Value.ref b] s = true := hts _ (by decide +kernel)
    obtain ⟨-, -, -, sa, -, -, -, -, -, hev⟩ := Cond.stringRef_spec hfc hw
    exact ⟨sa, vk_R.of hw hev⟩
  · exact vx_Zqof (args := #[Value.ref b]) (hts (Cond.laysStatic Bundle.tN "UNASSIGNED_STACK" Bundle.steD) (by decide +kernel)) (hts (Cond.initialized Bundle.tN) (by decide +kernel)) (hgs (Cond.isRef (.static Bundle.tN "UNASSIGNED_STACK" Bundle.steD)) (by decide +kernel)) (fun a h => Nat.not_le.mpr h)
  · exact vx_Zqof (args := #[Value.ref b]) (hts (Cond.laysStatic Bundle.tN "SUPPRESSED_SENTINEL" Bundle.listD) (by decide +kernel)) (hts (Cond.initialized Bundle.tN) (by decide +kernel)) (hgs (Cond.isRef (.static Bundle.tN "SUPPRESSED_SENTINEL" Bundle.listD)) (by decide +kernel)) (fun a h => Nat.not_le.mpr h)
  · refine mkD (fun c q hq => ?_)
    match c, hq with
    | 0, hq =>
      obtain rfl : (RX0, TX0, 15) = q := Option.some.inj hq
      obtain ⟨cC, iS, hk⟩ := u_known htw iX0 (htw _ kw291)
      exact ⟨(cC, iS), hk⟩
    | 1, hq =>
      obtain rfl : (RX1, TX1, 9) = q := Option.some.inj hq
      obtain ⟨cC, iS, hk⟩ := u_known htw iX1 (htw _ kw109)
      exact ⟨(cC, iS), hk⟩
    | 2, hq =>
      obtain rfl : (RX2, TX2, 5) = q := Option.some.inj hq
      obtain ⟨cC, iS, hk⟩ := u_known htw iX2 (htw _ kw264)
      exact ⟨(cC, iS), hk⟩
    | 3, hq =>
      obtain rfl : (RX3, TX3, 3) = q := Option.some.inj hq
      obtain ⟨cC, iS, hk⟩ := u_known htw iX3 (htw _ kw83)
      exact ⟨(cC, iS), hk⟩
    | 4, hq =>
      obtain rfl : (RX4, TX4, 6) = q := Option.some.inj hq
      obtain ⟨cC, iS, hk⟩ := u_known htw iX4 (htw _ kw298)
      exact ⟨(cC, iS), hk⟩
    | 5, hq =>
      obtain rfl : (RX5, TX5, 11) = q := Option.some.inj hq
      obtain ⟨cC, iS, hk⟩ := u_known htw iX5 (htw _ kw94)
      exact ⟨(cC, iS), hk⟩
    | 6, hq =>
      obtain rfl : (RX6, TX6, 12) = q := Option.some.inj hq
      obtain ⟨cC, iS, hk⟩ := u_known htw iX6 (htw _ kw131)
      exact ⟨(cC, iS), hk⟩
    | 7, hq =>
      obtain rfl : (RX7, TX7, 13) = q := Option.some.inj hq
      obtain ⟨cC, iS, hk⟩ := u_known htw iX7 (htw _ kw62)
      exact ⟨(cC, iS), hk⟩
    | 8, hq =>
      obtain rfl : (RX8, TX8, 6) = q := Option.some.inj hq
      obtain ⟨cC, iS, hk⟩ := u_known htw iX8 (htw _ kw19)
      exact ⟨(cC, iS), hk⟩
    | 9, hq =>
      obtain rfl : (RX9, TX9, 12) = q := Option.some.inj hq
      obtain ⟨cC, iS, hk⟩ := u_known htw iX9 (htw _ kw36)
      exact ⟨(cC, iS), hk⟩
    | 10, hq =>
      obtain rfl : (RX10, TX10, 9) = q := Option.some.inj hq
      obtain ⟨cC, iS, hk⟩ := u_known htw iX10 (htw _ kw348)
      exact ⟨(cC, iS), hk⟩
    | 11, hq =>
      obtain rfl : (RX11, TX11, 15) = q := Option.some.inj hq
      obtain ⟨cC, iS, hk⟩ := u_known htw iX11 (htw _ kw1020)
      exact ⟨(cC, iS), hk⟩
    | 12, hq =>
      obtain rfl : (RX12, TX12, 98) = q := Option.some.inj hq
      obtain ⟨cC, iS, hk⟩ := u_known htw iX12 (htw _ kw1021)
      exact ⟨(cC, iS), hk⟩
    | n + 13, hq => exact absurd hq (by simp [vwCl])
