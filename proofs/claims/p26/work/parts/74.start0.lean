/-! what the start gives -/
theorem st_N3 {args : Array Value} {s : State} (hgv : (Jvm.Cond.and given_1 narrow_1).before args s = true) : okN3 s := by
  have hs := flat_of_before _ hgv
  exact ⟨va_Nc.of (hs (.not (.castable exA exI)) (by decide +kernel)), va_Nc.of (hs (.not (.castable exS exI)) (by decide +kernel)), va_Nc.of (hs (.not (.castable exS exA)) (by decide +kernel))⟩
theorem st_N {args : Array Value} {s : State} (hts : ∀ w ∈ lw_tbl, w.before args s = true) : okN s :=
  ⟨va_Nw.of rfl (hts (.methodLinkNest RX4 9 yX3_init "Payoutnet") (by decide +kernel)), va_Nw.of rfl (hts (.methodLinkNest RX4 18 yX2_init "Payoutnet") (by decide +kernel)), va_Nw.of rfl (hts (.methodLinkNest RX4 25 yX1_init "Payoutnet") (by decide +kernel)), va_Nw.of rfl (hts (.methodLinkNest RX4 32 yX0_init "Payoutnet") (by decide +kernel))⟩
theorem st_str {args : Array Value} {s : State} (hts : ∀ w ∈ lw_tbl, w.before args s = true) (hgv : (Jvm.Cond.and given_1 narrow_1).before args s = true) : ∀ x ∈ vStr, ∃ sa, vk_R RX4 x.1 x.2 sa s := by
  have hs := flat_of_before _ hgv
  have key : ∀ x ∈ vStr, Cond.stringRef RX4 x.1 x.2 ∈ lw_tbl := by decide +kernel
  have key2 : ∀ x ∈ vStr, Cond.exactly (.string RX4 x.1) "java/lang/String" ∈ flatC (Jvm.Cond.and given_1 narrow_1) := by decide +kernel
  intro x hx
  obtain ⟨a, c, cA, kA, q1, -⟩ := Cond.exactly_spec (hs _ (key2 x hx))
  exact ⟨a, vk_R.of (hts _ (key x hx)) q1⟩
