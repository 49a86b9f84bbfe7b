theorem sCovR_stop {a : yA} {z i : Nat} (h : ¬ sCovR a z i 7 z < 0) : ∀ n, i ≤ n → sCovR a z n = sCovR a z i := by
  intro n
  induction n with
  | zero => intro hi; rw [show i = 0 by omega]
  | succ n ih =>
    intro hi
    by_cases e : i = n + 1
    · rw [e]
    · have h1 := ih (by omega)
      show (if _ then _ else _) = _
      rw [if_neg (fun q => h (by rw [← h1]; exact q.1))]
      exact h1
theorem sCovO_stop {a : yA} {z i : Nat} (h : ¬ sCovO a z i 7 z < 0) : ∀ n, i ≤ n → sCovO a z n = sCovO a z i := by
  intro n
  induction n with
  | zero => intro hi; rw [show i = 0 by omega]
  | succ n ih =>
    intro hi
    by_cases e : i = n + 1
    · rw [e]
    · have h1 := ih (by omega)
      show (if _ then _ else _) = _
      rw [if_neg (fun q => h (by rw [← h1]; exact q.1))]
      exact h1
set_option maxHeartbeats 4000000 in
set_option maxRecDepth 100000 in
theorem c_X4_coverFromReserves (l : Launch) (dC : Nat → ClassId) (dI : Nat → Nat → Nat) (cI cF : ClassId) (h0 : Nat) (q : Nat → Nat) (sz : Nat) (a : yA) (jc js jv : Nat → Int32) (k : Nat) (hC : okC a jc js jv k) (hB : okB a) (z : Nat) (hz : z < 8) : Met l yX4_coverFromReserves wsX4_coverFromReserves ({ frames := 4, cells := 0, slots := 0, locals := 87 } : Room) (va_Pc [.ref h0, .int (nI z)] (pcW dC dI [(cI, .int), (cF, .float)] (WC cI cF h0 q a jc js jv k (capOf (nn (a 0 4)))) sz)) (va_Qv (fun _ : Unit => True) (fun _ t => atC dC dI cI cF (va_A (WC cI cF h0 q a jc js jv k (capOf (nn (a 0 4)))) sz) h0 (sCovR a z (nn (a 0 3))) t) (va_A (WC cI cF h0 q a jc js jv k (capOf (nn (a 0 4)))) sz)) 0 0 (va_A (WC cI cF h0 q a jc js jv k (capOf (nn (a 0 4)))) sz) := by
  refine Met.ofW (cc := cX4_coverFromReserves) (maxL := 3) (ret := none) (by decide) rfl ?_
  intro p e s m args below meth c s₁ B hml hv
  obtain ⟨rfl, hsz, hP, hK, hD0⟩ := hv
  have hx := B.exec
  have hb := B.bytes
  have hr := B.returns
  have hts := atoms_spec (ws := wsX4_coverFromReserves) B.pre
  have hown : s.vm.findClass RX4 = some m.cls := findClass_of_methodNamed B.named
  have hlocks := B.notSynchronized
  subst hsz
  have hD := hD0.self (sz := s.heap.size)
  generalize hAe : va_A [(h0, .inr (4, [.ref (q 1), .ref (q 10), .ref (q 18), .ref (q 22), .ref (q 26), .int (a 0 2), .int (a 0 1), .int (a 0 5), .int (a 0 6), .int (a 0 7), .int (a 0 8)])), (q 1, .inr (3, [.ref (q 2), .ref (q 3), .ref (q 4), .ref (q 5), .ref (q 6), .ref (q 7), .ref (q 8), .ref (q 9), .int (a 0 0)])), (q 2, .inl (cI, 8, .inl (a 1))), (q 3, .inl (cI, 8, .inl (a 2))), (q 4, .inl (cI, 8, .inl (a 3))), (q 5, .inl (cI, 8, .inl (a 4))), (q 6, .inl (cI, 8, .inl (a 5))), (q 7, .inl (cI, 8, .inl (a 6))), (q 8, .inl (cI, 8, .inl (a 7))), (q 9, .inl (cI, 8, .inl (a 8))), (q 10, .inr (2, [.ref (q 11), .ref (q 12), .ref (q 13), .ref (q 14), .ref (q 15), .ref (q 16), .ref (q 17), .int (a 0 3)])), (q 11, .inl (cI, 100, .inl (a 10))), (q 12, .inl (cF, 100, .inr (.inr (.inl (fun j => shF (a 13 j)))))), (q 13, .inl (cI, 100, .inl (a 14))), (q 14, .inl (cI, 100, .inl (fun j => a 11 j - a 12 j))), (q 15, .inl (cI, 100, .inl (fun j => a 15 j - a 16 j))), (q 16, .inl (cI, 100, .inl (a 17))), (q 17, .inl (cI, 100, .inl (a 18))), (q 18, .inr (1, [.ref (q 19), .ref (q 20), .ref (q 21), .int (a 0 4)])), (q 19, .inl (cI, capOf (nn (a 0 4)), .inl (a 20))), (q 20, .inl (cI, capOf (nn (a 0 4)), .inl (a 19))), (q 21, .inl (cI, capOf (nn (a 0 4)), .inl (a 21))), (q 22, .inr (0, [.ref (q 23), .ref (q 24), .ref (q 25), .int (nI k)])), (q 23, .inl (cI, 8, .inl (jc))), (q 24, .inl (cI, 256, .inl (js))), (q 25, .inl (cI, 256, .inl (jv))), (q 26, .inl (cF, 4, .inr (.inr (.inl (fun j => shF (a 9 j))))))] s.heap.size = A at hD ⊢
  have hA : ∀ q : Nat, s.heap.size ≤ q → A q := fun q h => by rw [← hAe]; exact Or.inr h
  have hS : va_S A s.heap s.heap [] := va_S.rf
  have hl := lv_entry ([.ref h0, .int (nI z)]) (n := 3) (Nat.le_of_ble_eq_true rfl)
  rw [lg_entry_eq]
  generalize (lg_sl ([.ref h0, .int (nI z)]) ++ List.replicate (3 - (lg_sl ([.ref h0, .int (nI z)])).length) Slot.unset).toArray = ls at hl ⊢
  have hl : lv_has ls 3 [(0, .ref h0), (1, .int (nI z))] := hl
  have hiX4 : ∀ w ∈ wsX40, w ∈ wsX4_coverFromReserves := fun w h => List.mem_cons_of_mem _ (List.mem_append_left _ (List.mem_append_left _ (List.mem_append_left _ (List.mem_append_right _ h))))
  have hiX3 : ∀ w ∈ wsX30, w ∈ wsX4_coverFromReserves := fun w h => List.mem_cons_of_mem _ (List.mem_append_left _ (List.mem_append_right _ h))
  have hiX2 : ∀ w ∈ wsX20, w ∈ wsX4_coverFromReserves := fun w h => List.mem_cons_of_mem _ (List.mem_append_left _ (List.mem_append_left _ (List.mem_append_right _ h)))
  have hP : va_P (dC, dI) vwCl [(h0, .inr (4, [.ref (q 1), .ref (q 10), .ref (q 18), .ref (q 22), .ref (q 26), .int (a 0 2), .int (a 0 1), .int (a 0 5), .int (a 0 6), .int (a 0 7), .int (a 0 8)])), (q 1, .inr (3, [.ref (q 2), .ref (q 3), .ref (q 4), .ref (q 5), .ref (q 6), .ref (q 7), .ref (q 8), .ref (q 9), .int (a 0 0)])), (q 2, .inl (cI, 8, .inl (a 1))), (q 3, .inl (cI, 8, .inl (a 2))), (q 4, .inl (cI, 8, .inl (a 3))), (q 5, .inl (cI, 8, .inl (a 4))), (q 6, .inl (cI, 8, .inl (a 5))), (q 7, .inl (cI, 8, .inl (a 6))), (q 8, .inl (cI, 8, .inl (a 7))), (q 9, .inl (cI, 8, .inl (a 8))), (q 10, .inr (2, [.ref (q 11), .ref (q 12), .ref (q 13), .ref (q 14), .ref (q 15), .ref (q 16), .ref (q 17), .int (a 0 3)])), (q 11, .inl (cI, 100, .inl (a 10))), (q 12, .inl (cF, 100, .inr (.inr (.inl (fun j => shF (a 13 j)))))), (q 13, .inl (cI, 100, .inl (a 14))), (q 14, .inl (cI, 100, .inl (fun j => a 11 j - a 12 j))), (q 15, .inl (cI, 100, .inl (fun j => a 15 j - a 16 j))), (q 16, .inl (cI, 100, .inl (a 17))), (q 17, .inl (cI, 100, .inl (a 18))), (q 18, .inr (1, [.ref (q 19), .ref (q 20), .ref (q 21), .int (a 0 4)])), (q 19, .inl (cI, capOf (nn (a 0 4)), .inl (a 20))), (q 20, .inl (cI, capOf (nn (a 0 4)), .inl (a 19))), (q 21, .inl (cI, capOf (nn (a 0 4)), .inl (a 21))), (q 22, .inr (0, [.ref (q 23), .ref (q 24), .ref (q 25), .int (nI k)])), (q 23, .inl (cI, 8, .inl (jc))), (q 24, .inl (cI, 256, .inl (js))), (q 25, .inl (cI, 256, .inl (jv))), (q 26, .inl (cF, 4, .inr (.inr (.inl (fun j => shF (a 9 j))))))] s.heap := hP
  refine y_enter (A := A) hP (fun H hP hS => ?_)
  refine lv_iconst (v := 0) hx hb dX4_coverFromReserves_0 (by decide) ?_
  refine lv_istore_n (lv' := [(2, .int 0), (0, .ref h0), (1, .int (nI z))]) hx hb dX4_coverFromReserves_1 rfl hl (by decide) rfl (fun ls hl => ?_)
  have hn := hB 0 3 100 rfl
  have hn2 := hn.2
  refine y_loop (fun k9 H locs ls => ∃ (i : Nat) (q0 : Nat → Nat) (jc0 : Nat → Int32) (js0 : Nat → Int32) (jv0 : Nat → Int32) (k0 : Nat), k9 + i = nn (a 0 3) ∧ okC (sCovR a z i) jc0 js0 jv0 k0 ∧ va_P (dC, dI) vwCl [(h0, .inr (4, [.ref (q0 1), .ref (q0 10), .ref (q0 18), .ref (q0 22), .ref (q0 26), .int ((sCovR a z i) 0 2), .int ((sCovR a z i) 0 1), .int ((sCovR a z i) 0 5), .int ((sCovR a z i) 0 6), .int ((sCovR a z i) 0 7), .int ((sCovR a z i) 0 8)])), (q0 1, .inr (3, [.ref (q0 2), .ref (q0 3), .ref (q0 4), .ref (q0 5), .ref (q0 6), .ref (q0 7), .ref (q0 8), .ref (q0 9), .int ((sCovR a z i) 0 0)])), (q0 2, .inl (cI, 8, .inl ((sCovR a z i) 1))), (q0 3, .inl (cI, 8, .inl ((sCovR a z i) 2))), (q0 4, .inl (cI, 8, .inl ((sCovR a z i) 3))), (q0 5, .inl (cI, 8, .inl ((sCovR a z i) 4))), (q0 6, .inl (cI, 8, .inl ((sCovR a z i) 5))), (q0 7, .inl (cI, 8, .inl ((sCovR a z i) 6))), (q0 8, .inl (cI, 8, .inl ((sCovR a z i) 7))), (q0 9, .inl (cI, 8, .inl ((sCovR a z i) 8))), (q0 10, .inr (2, [.ref (q0 11), .ref (q0 12), .ref (q0 13), .ref (q0 14), .ref (q0 15), .ref (q0 16), .ref (q0 17), .int ((sCovR a z i) 0 3)])), (q0 11, .inl (cI, 100, .inl ((sCovR a z i) 10))), (q0 12, .inl (cF, 100, .inr (.inr (.inl (fun j => shF ((sCovR a z i) 13 j)))))), (q0 13, .inl (cI, 100, .inl ((sCovR a z i) 14))), (q0 14, .inl (cI, 100, .inl (fun j => (sCovR a z i) 11 j - (sCovR a z i) 12 j))), (q0 15, .inl (cI, 100, .inl (fun j => (sCovR a z i) 15 j - (sCovR a z i) 16 j))), (q0 16, .inl (cI, 100, .inl ((sCovR a z i) 17))), (q0 17, .inl (cI, 100, .inl ((sCovR a z i) 18))), (q0 18, .inr (1, [.ref (q0 19), .ref (q0 20), .ref (q0 21), .int ((sCovR a z i) 0 4)])), (q0 19, .inl (cI, capOf (nn ((sCovR a z i) 0 4)), .inl ((sCovR a z i) 20))), (q0 20, .inl (cI, capOf (nn ((sCovR a z i) 0 4)), .inl ((sCovR a z i) 19))), (q0 21, .inl (cI, capOf (nn ((sCovR a z i) 0 4)), .inl ((sCovR a z i) 21))), (q0 22, .inr (0, [.ref (q0 23), .ref (q0 24), .ref (q0 25), .int (nI k0)])), (q0 23, .inl (cI, 8, .inl (jc0))), (q0 24, .inl (cI, 256, .inl (js0))), (q0 25, .inl (cI, 256, .inl (jv0))), (q0 26, .inl (cF, 4, .inr (.inr (.inl (fun j => shF ((sCovR a z i) 9 j))))))] H ∧ va_D A [(h0, .inr (4, [.ref (q0 1), .ref (q0 10), .ref (q0 18), .ref (q0 22), .ref (q0 26), .int ((sCovR a z i) 0 2), .int ((sCovR a z i) 0 1), .int ((sCovR a z i) 0 5), .int ((sCovR a z i) 0 6), .int ((sCovR a z i) 0 7), .int ((sCovR a z i) 0 8)])), (q0 1, .inr (3, [.ref (q0 2), .ref (q0 3), .ref (q0 4), .ref (q0 5), .ref (q0 6), .ref (q0 7), .ref (q0 8), .ref (q0 9), .int ((sCovR a z i) 0 0)])), (q0 2, .inl (cI, 8, .inl ((sCovR a z i) 1))), (q0 3, .inl (cI, 8, .inl ((sCovR a z i) 2))), (q0 4, .inl (cI, 8, .inl ((sCovR a z i) 3))), (q0 5, .inl (cI, 8, .inl ((sCovR a z i) 4))), (q0 6, .inl (cI, 8, .inl ((sCovR a z i) 5))), (q0 7, .inl (cI, 8, .inl ((sCovR a z i) 6))), (q0 8, .inl (cI, 8, .inl ((sCovR a z i) 7))), (q0 9, .inl (cI, 8, .inl ((sCovR a z i) 8))), (q0 10, .inr (2, [.ref (q0 11), .ref (q0 12), .ref (q0 13), .ref (q0 14), .ref (q0 15), .ref (q0 16), .ref (q0 17), .int ((sCovR a z i) 0 3)])), (q0 11, .inl (cI, 100, .inl ((sCovR a z i) 10))), (q0 12, .inl (cF, 100, .inr (.inr (.inl (fun j => shF ((sCovR a z i) 13 j)))))), (q0 13, .inl (cI, 100, .inl ((sCovR a z i) 14))), (q0 14, .inl (cI, 100, .inl (fun j => (sCovR a z i) 11 j - (sCovR a z i) 12 j))), (q0 15, .inl (cI, 100, .inl (fun j => (sCovR a z i) 15 j - (sCovR a z i) 16 j))), (q0 16, .inl (cI, 100, .inl ((sCovR a z i) 17))), (q0 17, .inl (cI, 100, .inl ((sCovR a z i) 18))), (q0 18, .inr (1, [.ref (q0 19), .ref (q0 20), .ref (q0 21), .int ((sCovR a z i) 0 4)])), (q0 19, .inl (cI, capOf (nn ((sCovR a z i) 0 4)), .inl ((sCovR a z i) 20))), (q0 20, .inl (cI, capOf (nn ((sCovR a z i) 0 4)), .inl ((sCovR a z i) 19))), (q0 21, .inl (cI, capOf (nn ((sCovR a z i) 0 4)), .inl ((sCovR a z i) 21))), (q0 22, .inr (0, [.ref (q0 23), .ref (q0 24), .ref (q0 25), .int (nI k0)])), (q0 23, .inl (cI, 8, .inl (jc0))), (q0 24, .inl (cI, 256, .inl (js0))), (q0 25, .inl (cI, 256, .inl (jv0))), (q0 26, .inl (cF, 4, .inr (.inr (.inl (fun j => shF ((sCovR a z i) 9 j))))))] ∧ va_S A s.heap H locs ∧ lv_has ls 3 [(2, .int (nI i)), (1, .int (nI z)), (0, .ref h0)]) (nn (a 0 3)) ⟨0, q, jc, js, jv, k, by omega, hC, hP, hD, hS, lv_sub hl [0, 2, 1] rfl⟩ (fun k9 H locs ls hI ih => ?_)
  obtain ⟨i, q0, jc0, js0, jv0, k0, hf0, hf1, hP, hD, hS, hl⟩ := hI
  have hBi := okB_covR hB z i
  refine lv_iload_n hx hb dX4_coverFromReserves_2 rfl (lv_at hl 0 rfl) ?_
  refine lv_aload_n hx hb dX4_coverFromReserves_3 rfl (lv_at hl 2 rfl) ?_
  refine va_get (D := (dC, dI)) (ci := 4) (v := .ref (q0 10)) (C := RX4) (T := TX4) (N := 11) hx hb hts hiX4 hown hK hP 0 rfl rfl 1 (by decide) (hts (.fieldLink RX4 19 "Payoutnet" "sales" "LPayoutnet$Sales;") (List.mem_of_getElem? (i := 1) rfl)) (fun _ h9 => h9) rfl dX4_coverFromReserves_4 ?_
  refine va_get (D := (dC, dI)) (ci := 2) (v := .int ((sCovR a z i) 0 3)) (C := RX2) (T := TX2) (N := 8) hx hb hts hiX2 hown hK hP 10 rfl rfl 7 (by decide) (hts (.fieldLink RX4 129 "Payoutnet$Sales" "count" "I") (List.mem_of_getElem? (i := 2) rfl)) (fun _ h9 => h9) rfl dX4_coverFromReserves_7 ?_
  refine y_topi (y := nI (nn (a 0 3))) (by rw [sCovR_oth a z i (by decide) (by decide)]; exact hn.1) ?_
  refine lv_icmp_ge (tgt := 71) hx hb dX4_coverFromReserves_10 (by decide) (fun c_1 => ?_) (fun c_1 => ?_)
  · have hik : i = nn (a 0 3) := by have := (nI_leI (a := nn (a 0 3)) (b := i) (by omega) (by omega)).mp c_1; omega
    rw [hik] at hP hD hf1
    have hP9 := hP
    have hD9 := hD
    have hK9 := hK
    exact W.vret hx hb hr (fun t ht hW => ⟨⟨(), rfl, trivial, atC_in hf1 (atW_end hP9 hD9 hK9 ht hW)⟩, hS.F ht⟩) hS.2.2 dX4_coverFromReserves_71
  · have hik : i < nn (a 0 3) := Nat.lt_of_not_le (fun h => c_1 ((nI_leI (a := nn (a 0 3)) (b := i) (by omega) (by omega)).mpr h))
    refine lv_aload_n hx hb dX4_coverFromReserves_13 rfl (lv_at hl 2 rfl) ?_
    refine va_get (D := (dC, dI)) (ci := 4) (v := .ref (q0 1)) (C := RX4) (T := TX4) (N := 11) hx hb hts hiX4 hown hK hP 0 rfl rfl 0 (by decide) (hts (.fieldLink RX4 10 "Payoutnet" "shops" "LPayoutnet$Shops;") (List.mem_of_getElem? (i := 3) rfl)) (fun _ h9 => h9) rfl dX4_coverFromReserves_14 ?_
    refine va_get (D := (dC, dI)) (ci := 3) (v := .ref (q0 8)) (C := RX3) (T := TX3) (N := 9) hx hb hts hiX3 hown hK hP 1 rfl rfl 6 (by decide) (hts (.fieldLink RX4 168 "Payoutnet$Shops" "balance" "[I") (List.mem_of_getElem? (i := 4) rfl)) (fun _ h9 => h9) rfl dX4_coverFromReserves_17 ?_
    refine lv_iload_n hx hb dX4_coverFromReserves_20 rfl (lv_at hl 1 rfl) ?_
    refine y_ild hx hb hK hP 8 0 rfl rfl (t := z) (by omega) (Nat.le_of_ble_eq_true rfl) dX4_coverFromReserves_21 ?_
    refine lv_if_ge (tgt := 71) hx hb dX4_coverFromReserves_22 (by decide) (fun c_2 => ?_) (fun c_2 => ?_)
    · have e9 := sCovR_stop (a := a) (z := z) (i := i) (Int32.not_lt.mpr c_2) (nn (a 0 3)) (by omega)
      rw [← e9] at hP hD hf1
      have hP9 := hP
      have hD9 := hD
      have hK9 := hK
      exact W.vret hx hb hr (fun t ht hW => ⟨⟨(), rfl, trivial, atC_in hf1 (atW_end hP9 hD9 hK9 ht hW)⟩, hS.F ht⟩) hS.2.2 dX4_coverFromReserves_71
    · have hneg := Int32.not_le.mp c_2
      refine lv_aload_n hx hb dX4_coverFromReserves_25 rfl (lv_at hl 2 rfl) ?_
      refine va_get (D := (dC, dI)) (ci := 4) (v := .ref (q0 10)) (C := RX4) (T := TX4) (N := 11) hx hb hts hiX4 hown hK hP 0 rfl rfl 1 (by decide) (hts (.fieldLink RX4 19 "Payoutnet" "sales" "LPayoutnet$Sales;") (List.mem_of_getElem? (i := 1) rfl)) (fun _ h9 => h9) rfl dX4_coverFromReserves_26 ?_
      refine va_get (D := (dC, dI)) (ci := 2) (v := .ref (q0 11)) (C := RX2) (T := TX2) (N := 8) hx hb hts hiX2 hown hK hP 10 rfl rfl 0 (by decide) (hts (.fieldLink RX4 137 "Payoutnet$Sales" "seller" "[I") (List.mem_of_getElem? (i := 5) rfl)) (fun _ h9 => h9) rfl dX4_coverFromReserves_29 ?_
      refine lv_iload_n hx hb dX4_coverFromReserves_32 rfl (lv_at hl 0 rfl) ?_
      refine y_ild hx hb hK hP 11 0 rfl rfl (t := i) (by omega) (Nat.le_of_ble_eq_true rfl) dX4_coverFromReserves_33 ?_
      refine lv_iload_n hx hb dX4_coverFromReserves_34 rfl (lv_at hl 1 rfl) ?_
      refine lv_icmp_ne (tgt := 65) hx hb dX4_coverFromReserves_35 (by decide) (fun c_3 => ?_) (fun c_3 => ?_)
      · have e9 : sCovR a z (i + 1) = sCovR a z i := if_neg (fun q9 => c_3 q9.2)
        refine lv_iinc (v := nI (i + 1)) (lv' := [(2, .int (nI (i + 1))), (1, .int (nI z)), (0, .ref h0)]) hx hb dX4_coverFromReserves_65 hl (k := 0) rfl (nI_1 i) (by decide) rfl (fun ls hl => ?_)
        refine lv_goto (tgt := 2) hx hb dX4_coverFromReserves_68 (by decide) ?_
        rw [← e9] at hP hD hf1
        exact ih (k9 - 1) H locs ls (by omega) ⟨i + 1, q0, jc0, js0, jv0, k0, by omega, hf1, hP, hD, hS, lv_sub hl [0, 1, 2] rfl⟩
      · refine lv_aload_n hx hb dX4_coverFromReserves_38 rfl (lv_at hl 2 rfl) ?_
        refine lv_iload_n hx hb dX4_coverFromReserves_39 rfl (lv_at hl 0 rfl) ?_
        refine lv_aload_n hx hb dX4_coverFromReserves_40 rfl (lv_at hl 2 rfl) ?_
        refine va_get (D := (dC, dI)) (ci := 4) (v := .ref (q0 10)) (C := RX4) (T := TX4) (N := 11) hx hb hts hiX4 hown hK hP 0 rfl rfl 1 (by decide) (hts (.fieldLink RX4 19 "Payoutnet" "sales" "LPayoutnet$Sales;") (List.mem_of_getElem? (i := 1) rfl)) (fun _ h9 => h9) rfl dX4_coverFromReserves_41 ?_
        refine va_get (D := (dC, dI)) (ci := 2) (v := .ref (q0 16)) (C := RX2) (T := TX2) (N := 8) hx hb hts hiX2 hown hK hP 10 rfl rfl 5 (by decide) (hts (.fieldLink RX4 218 "Payoutnet$Sales" "held" "[I") (List.mem_of_getElem? (i := 6) rfl)) (fun _ h9 => h9) rfl dX4_coverFromReserves_44 ?_
        refine lv_iload_n hx hb dX4_coverFromReserves_47 rfl (lv_at hl 0 rfl) ?_
        refine y_ild hx hb hK hP 16 0 rfl rfl (t := i) (by omega) (Nat.le_of_ble_eq_true rfl) dX4_coverFromReserves_48 ?_
        refine lv_aload_n hx hb dX4_coverFromReserves_49 rfl (lv_at hl 2 rfl) ?_
        refine va_get (D := (dC, dI)) (ci := 4) (v := .ref (q0 1)) (C := RX4) (T := TX4) (N := 11) hx hb hts hiX4 hown hK hP 0 rfl rfl 0 (by decide) (hts (.fieldLink RX4 10 "Payoutnet" "shops" "LPayoutnet$Shops;") (List.mem_of_getElem? (i := 3) rfl)) (fun _ h9 => h9) rfl dX4_coverFromReserves_50 ?_
        refine va_get (D := (dC, dI)) (ci := 3) (v := .ref (q0 8)) (C := RX3) (T := TX3) (N := 9) hx hb hts hiX3 hown hK hP 1 rfl rfl 6 (by decide) (hts (.fieldLink RX4 168 "Payoutnet$Shops" "balance" "[I") (List.mem_of_getElem? (i := 4) rfl)) (fun _ h9 => h9) rfl dX4_coverFromReserves_53 ?_
        refine lv_iload_n hx hb dX4_coverFromReserves_56 rfl (lv_at hl 1 rfl) ?_
        refine y_ild hx hb hK hP 8 0 rfl rfl (t := z) (by omega) (Nat.le_of_ble_eq_true rfl) dX4_coverFromReserves_57 ?_
        refine lv_ineg hx hb dX4_coverFromReserves_58 ?_
        refine va_mmin hx hb (hml.trans hl.1.symm) hown (hts (.methodLink RX4 119 Lib.Math.min.name) (List.mem_of_getElem? (i := 7) rfl)) (hts (.static Lib.Math.min.name) (List.mem_of_getElem? (i := 8) rfl)) (hts (.initialized "java/lang/Math") (List.mem_of_getElem? (i := 9) rfl)) (hts (.code Lib.Math.min.name Lib.Math.min.code 2 (some .int)) (List.mem_of_getElem? (i := 10) rfl)) (Nat.le_of_ble_eq_true rfl) (Nat.le_of_ble_eq_true rfl) (Nat.zero_le _) (Nat.zero_le _) dX4_coverFromReserves_59 ?_
        refine y_topi (y := imin (sCovR a z i 17 i) (-(sCovR a z i 7 z))) rfl ?_
        have e9 : sCovR a z (i + 1) = sRel (sCovR a z i) i (imin (sCovR a z i 17 i) (-(sCovR a z i 7 z))) := if_pos ⟨hneg, c_3⟩
        have hFc := y_free hD hS hA
        refine va_callv (va_runV (As := [.int (nI i), .int (imin (sCovR a z i 17 i) (-(sCovR a z i 7 z)))]) (rest := []) ⟨hx, hb, hml, hown, hts⟩ (c_X4_release l dC dI cI cF h0 q0 H.size (sCovR a z i) jc0 js0 jv0 k0 hf1 hBi i (by omega) (imin (sCovR a z i 17 i) (-(sCovR a z i 7 z)))) (cwV 2 hts gX4_coverFromReserves_X4_release rfl rfl rfl (by decide +kernel) ⟨Nat.le_of_ble_eq_true rfl, Nat.le_of_ble_eq_true rfl⟩) ⟨pcW_blind, va_recv hK hP (ci := 4) (q0 := 0) rfl rfl, fun U hU hW => pcW_pre hP hD hK hU hW⟩ rfl rfl hl.1 rfl (lv_room (Nat.le_of_ble_eq_true rfl)) dX4_coverFromReserves_62 ⟨(Nat.zero_le _), (Nat.zero_le _)⟩) hS (fun q _ h => hFc q h) hFc (fun u t H1 locs ht hvm hw hB1 hz1 hk1 hS => ?_)
        obtain ⟨q4, jc4, js4, jv4, k4, hC4, hP, hK1, hD1⟩ := hB1
        rw [ht] at hP
        have hD := hD1.weaken (fun kk qq _ h => hFc qq.1 h)
        generalize H1 = H at hP hS ⊢
        have hC4 : okC (sRel (sCovR a z i) i (imin (sCovR a z i 17 i) (-(sCovR a z i 7 z)))) jc4 js4 jv4 k4 := hC4
        have hP : va_P (dC, dI) vwCl (WC cI cF h0 q4 (sRel (sCovR a z i) i (imin (sCovR a z i 17 i) (-(sCovR a z i 7 z)))) jc4 js4 jv4 k4 (capOf (nn ((sRel (sCovR a z i) i (imin (sCovR a z i 17 i) (-(sCovR a z i 7 z)))) 0 4)))) H := hP
        have hD : va_D A (WC cI cF h0 q4 (sRel (sCovR a z i) i (imin (sCovR a z i 17 i) (-(sCovR a z i 7 z)))) jc4 js4 jv4 k4 (capOf (nn ((sRel (sCovR a z i) i (imin (sCovR a z i 17 i) (-(sCovR a z i 7 z)))) 0 4)))) := hD
        refine lv_iinc (v := nI (i + 1)) (lv' := [(2, .int (nI (i + 1))), (1, .int (nI z)), (0, .ref h0)]) hx hb dX4_coverFromReserves_65 hl (k := 0) rfl (nI_1 i) (by decide) rfl (fun ls hl => ?_)
        refine lv_goto (tgt := 2) hx hb dX4_coverFromReserves_68 (by decide) ?_
        rw [← e9] at hP hD hC4
        exact ih (k9 - 1) H locs ls (by omega) ⟨i + 1, q4, jc4, js4, jv4, k4, by omega, hC4, hP, hD, hS, lv_sub hl [0, 1, 2] rfl⟩
set_option maxHeartbeats 4000000 in
set_option maxRecDepth 100000 in
theorem c_X4_coverFromOwner (l : Launch) (dC : Nat → ClassId) (dI : Nat → Nat → Nat) (cI cF : ClassId) (h0 : Nat) (q : Nat → Nat) (sz : Nat) (a : yA) (jc js jv : Nat → Int32) (k : Nat) (hC : okC a jc js jv k) (hB : okB a) (z : Nat) (hz : z < 8) : Met l yX4_coverFromOwner wsX4_coverFromOwner ({ frames := 3, cells := 0, slots := 0, locals := 65 } : Room) (va_Pc [.ref h0, .int (nI z)] (pcW dC dI [(cI, .int), (cF, .float)] (WC cI cF h0 q a jc js jv k (capOf (nn (a 0 4)))) sz)) (va_Qv (fun _ : Unit => True) (fun _ t => atC dC dI cI cF (va_A (WC cI cF h0 q a jc js jv k (capOf (nn (a 0 4)))) sz) h0 (sCovO a z (nn (a 0 0))) t) (va_A (WC cI cF h0 q a jc js jv k (capOf (nn (a 0 4)))) sz)) 0 0 (va_A (WC cI cF h0 q a jc js jv k (capOf (nn (a 0 4)))) sz) := by
  refine Met.ofW (cc := cX4_coverFromOwner) (maxL := 4) (ret := none) (by decide) rfl ?_
  intro p e s m args below meth c s₁ B hml hv
  obtain ⟨rfl, hsz, hP, hK, hD0⟩ := hv
  have hx := B.exec
  have hb := B.bytes
  have hr := B.returns
  have hts := atoms_spec (ws := wsX4_coverFromOwner) B.pre
  have hown : s.vm.findClass RX4 = some m.cls := findClass_of_methodNamed B.named
  have hlocks := B.notSynchronized
  subst hsz
  have hD := hD0.self (sz := s.heap.size)
  generalize hAe : va_A [(h0, .inr (4, [.ref (q 1), .ref (q 10), .ref (q 18), .ref (q 22), .ref (q 26), .int (a 0 2), .int (a 0 1), .int (a 0 5), .int (a 0 6), .int (a 0 7), .int (a 0 8)])), (q 1, .inr (3, [.ref (q 2), .ref (q 3), .ref (q 4), .ref (q 5), .ref (q 6), .ref (q 7), .ref (q 8), .ref (q 9), .int (a 0 0)])), (q 2, .inl (cI, 8, .inl (a 1))), (q 3, .inl (cI, 8, .inl (a 2))), (q 4, .inl (cI, 8, .inl (a 3))), (q 5, .inl (cI, 8, .inl (a 4))), (q 6, .inl (cI, 8, .inl (a 5))), (q 7, .inl (cI, 8, .inl (a 6))), (q 8, .inl (cI, 8, .inl (a 7))), (q 9, .inl (cI, 8, .inl (a 8))), (q 10, .inr (2, [.ref (q 11), .ref (q 12), .ref (q 13), .ref (q 14), .ref (q 15), .ref (q 16), .ref (q 17), .int (a 0 3)])), (q 11, .inl (cI, 100, .inl (a 10))), (q 12, .inl (cF, 100, .inr (.inr (.inl (fun j => shF (a 13 j)))))), (q 13, .inl (cI, 100, .inl (a 14))), (q 14, .inl (cI, 100, .inl (fun j => a 11 j - a 12 j))), (q 15, .inl (cI, 100, .inl (fun j => a 15 j - a 16 j))), (q 16, .inl (cI, 100, .inl (a 17))), (q 17, .inl (cI, 100, .inl (a 18))), (q 18, .inr (1, [.ref (q 19), .ref (q 20), .ref (q 21), .int (a 0 4)])), (q 19, .inl (cI, capOf (nn (a 0 4)), .inl (a 20))), (q 20, .inl (cI, capOf (nn (a 0 4)), .inl (a 19))), (q 21, .inl (cI, capOf (nn (a 0 4)), .inl (a 21))), (q 22, .inr (0, [.ref (q 23), .ref (q 24), .ref (q 25), .int (nI k)])), (q 23, .inl (cI, 8, .inl (jc))), (q 24, .inl (cI, 256, .inl (js))), (q 25, .inl (cI, 256, .inl (jv))), (q 26, .inl (cF, 4, .inr (.inr (.inl (fun j => shF (a 9 j))))))] s.heap.size = A at hD ⊢
  have hA : ∀ q : Nat, s.heap.size ≤ q → A q := fun q h => by rw [← hAe]; exact Or.inr h
  have hS : va_S A s.heap s.heap [] := va_S.rf
  have hl := lv_entry ([.ref h0, .int (nI z)]) (n := 4) (Nat.le_of_ble_eq_true rfl)
  rw [lg_entry_eq]
  generalize (lg_sl ([.ref h0, .int (nI z)]) ++ List.replicate (4 - (lg_sl ([.ref h0, .int (nI z)])).length) Slot.unset).toArray = ls at hl ⊢
  have hl : lv_has ls 4 [(0, .ref h0), (1, .int (nI z))] := hl
  have hiX4 : ∀ w ∈ wsX40, w ∈ wsX4_coverFromOwner := fun w h => List.mem_cons_of_mem _ (List.mem_append_left _ (List.mem_append_left _ (List.mem_append_right _ h)))
  have hiX3 : ∀ w ∈ wsX30, w ∈ wsX4_coverFromOwner := fun w h => List.mem_cons_of_mem _ (List.mem_append_left _ (List.mem_append_right _ h))
  have hP : va_P (dC, dI) vwCl [(h0, .inr (4, [.ref (q 1), .ref (q 10), .ref (q 18), .ref (q 22), .ref (q 26), .int (a 0 2), .int (a 0 1), .int (a 0 5), .int (a 0 6), .int (a 0 7), .int (a 0 8)])), (q 1, .inr (3, [.ref (q 2), .ref (q 3), .ref (q 4), .ref (q 5), .ref (q 6), .ref (q 7), .ref (q 8), .ref (q 9), .int (a 0 0)])), (q 2, .inl (cI, 8, .inl (a 1))), (q 3, .inl (cI, 8, .inl (a 2))), (q 4, .inl (cI, 8, .inl (a 3))), (q 5, .inl (cI, 8, .inl (a 4))), (q 6, .inl (cI, 8, .inl (a 5))), (q 7, .inl (cI, 8, .inl (a 6))), (q 8, .inl (cI, 8, .inl (a 7))), (q 9, .inl (cI, 8, .inl (a 8))), (q 10, .inr (2, [.ref (q 11), .ref (q 12), .ref (q 13), .ref (q 14), .ref (q 15), .ref (q 16), .ref (q 17), .int (a 0 3)])), (q 11, .inl (cI, 100, .inl (a 10))), (q 12, .inl (cF, 100, .inr (.inr (.inl (fun j => shF (a 13 j)))))), (q 13, .inl (cI, 100, .inl (a 14))), (q 14, .inl (cI, 100, .inl (fun j => a 11 j - a 12 j))), (q 15, .inl (cI, 100, .inl (fun j => a 15 j - a 16 j))), (q 16, .inl (cI, 100, .inl (a 17))), (q 17, .inl (cI, 100, .inl (a 18))), (q 18, .inr (1, [.ref (q 19), .ref (q 20), .ref (q 21), .int (a 0 4)])), (q 19, .inl (cI, capOf (nn (a 0 4)), .inl (a 20))), (q 20, .inl (cI, capOf (nn (a 0 4)), .inl (a 19))), (q 21, .inl (cI, capOf (nn (a 0 4)), .inl (a 21))), (q 22, .inr (0, [.ref (q 23), .ref (q 24), .ref (q 25), .int (nI k)])), (q 23, .inl (cI, 8, .inl (jc))), (q 24, .inl (cI, 256, .inl (js))), (q 25, .inl (cI, 256, .inl (jv))), (q 26, .inl (cF, 4, .inr (.inr (.inl (fun j => shF (a 9 j))))))] s.heap := hP
  refine y_enter (A := A) hP (fun H hP hS => ?_)
  refine lv_iconst (v := 0) hx hb dX4_coverFromOwner_0 (by decide) ?_
  refine lv_istore_n (lv' := [(2, .int 0), (0, .ref h0), (1, .int (nI z))]) hx hb dX4_coverFromOwner_1 rfl hl (by decide) rfl (fun ls hl => ?_)
  have hn := hB 0 0 8 rfl
  have hn2 := hn.2
  refine y_loop (fun k9 H locs ls => ∃ (i : Nat) (q0 : Nat → Nat) (jc0 : Nat → Int32) (js0 : Nat → Int32) (jv0 : Nat → Int32) (k0 : Nat), k9 + i = nn (a 0 0) ∧ okC (sCovO a z i) jc0 js0 jv0 k0 ∧ va_P (dC, dI) vwCl [(h0, .inr (4, [.ref (q0 1), .ref (q0 10), .ref (q0 18), .ref (q0 22), .ref (q0 26), .int ((sCovO a z i) 0 2), .int ((sCovO a z i) 0 1), .int ((sCovO a z i) 0 5), .int ((sCovO a z i) 0 6), .int ((sCovO a z i) 0 7), .int ((sCovO a z i) 0 8)])), (q0 1, .inr (3, [.ref (q0 2), .ref (q0 3), .ref (q0 4), .ref (q0 5), .ref (q0 6), .ref (q0 7), .ref (q0 8), .ref (q0 9), .int ((sCovO a z i) 0 0)])), (q0 2, .inl (cI, 8, .inl ((sCovO a z i) 1))), (q0 3, .inl (cI, 8, .inl ((sCovO a z i) 2))), (q0 4, .inl (cI, 8, .inl ((sCovO a z i) 3))), (q0 5, .inl (cI, 8, .inl ((sCovO a z i) 4))), (q0 6, .inl (cI, 8, .inl ((sCovO a z i) 5))), (q0 7, .inl (cI, 8, .inl ((sCovO a z i) 6))), (q0 8, .inl (cI, 8, .inl ((sCovO a z i) 7))), (q0 9, .inl (cI, 8, .inl ((sCovO a z i) 8))), (q0 10, .inr (2, [.ref (q0 11), .ref (q0 12), .ref (q0 13), .ref (q0 14), .ref (q0 15), .ref (q0 16), .ref (q0 17), .int ((sCovO a z i) 0 3)])), (q0 11, .inl (cI, 100, .inl ((sCovO a z i) 10))), (q0 12, .inl (cF, 100, .inr (.inr (.inl (fun j => shF ((sCovO a z i) 13 j)))))), (q0 13, .inl (cI, 100, .inl ((sCovO a z i) 14))), (q0 14, .inl (cI, 100, .inl (fun j => (sCovO a z i) 11 j - (sCovO a z i) 12 j))), (q0 15, .inl (cI, 100, .inl (fun j => (sCovO a z i) 15 j - (sCovO a z i) 16 j))), (q0 16, .inl (cI, 100, .inl ((sCovO a z i) 17))), (q0 17, .inl (cI, 100, .inl ((sCovO a z i) 18))), (q0 18, .inr (1, [.ref (q0 19), .ref (q0 20), .ref (q0 21), .int ((sCovO a z i) 0 4)])), (q0 19, .inl (cI, capOf (nn ((sCovO a z i) 0 4)), .inl ((sCovO a z i) 20))), (q0 20, .inl (cI, capOf (nn ((sCovO a z i) 0 4)), .inl ((sCovO a z i) 19))), (q0 21, .inl (cI, capOf (nn ((sCovO a z i) 0 4)), .inl ((sCovO a z i) 21))), (q0 22, .inr (0, [.ref (q0 23), .ref (q0 24), .ref (q0 25), .int (nI k0)])), (q0 23, .inl (cI, 8, .inl (jc0))), (q0 24, .inl (cI, 256, .inl (js0))), (q0 25, .inl (cI, 256, .inl (jv0))), (q0 26, .inl (cF, 4, .inr (.inr (.inl (fun j => shF ((sCovO a z i) 9 j))))))] H ∧ va_D A [(h0, .inr (4, [.ref (q0 1), .ref (q0 10), .ref (q0 18), .ref (q0 22), .ref (q0 26), .int ((sCovO a z i) 0 2), .int ((sCovO a z i) 0 1), .int ((sCovO a z i) 0 5), .int ((sCovO a z i) 0 6), .int ((sCovO a z i) 0 7), .int ((sCovO a z i) 0 8)])), (q0 1, .inr (3, [.ref (q0 2), .ref (q0 3), .ref (q0 4), .ref (q0 5), .ref (q0 6), .ref (q0 7), .ref (q0 8), .ref (q0 9), .int ((sCovO a z i) 0 0)])), (q0 2, .inl (cI, 8, .inl ((sCovO a z i) 1))), (q0 3, .inl (cI, 8, .inl ((sCovO a z i) 2))), (q0 4, .inl (cI, 8, .inl ((sCovO a z i) 3))), (q0 5, .inl (cI, 8, .inl ((sCovO a z i) 4))), (q0 6, .inl (cI, 8, .inl ((sCovO a z i) 5))), (q0 7, .inl (cI, 8, .inl ((sCovO a z i) 6))), (q0 8, .inl (cI, 8, .inl ((sCovO a z i) 7))), (q0 9, .inl (cI, 8, .inl ((sCovO a z i) 8))), (q0 10, .inr (2, [.ref (q0 11), .ref (q0 12), .ref (q0 13), .ref (q0 14), .ref (q0 15), .ref (q0 16), .ref (q0 17), .int ((sCovO a z i) 0 3)])), (q0 11, .inl (cI, 100, .inl ((sCovO a z i) 10))), (q0 12, .inl (cF, 100, .inr (.inr (.inl (fun j => shF ((sCovO a z i) 13 j)))))), (q0 13, .inl (cI, 100, .inl ((sCovO a z i) 14))), (q0 14, .inl (cI, 100, .inl (fun j => (sCovO a z i) 11 j - (sCovO a z i) 12 j))), (q0 15, .inl (cI, 100, .inl (fun j => (sCovO a z i) 15 j - (sCovO a z i) 16 j))), (q0 16, .inl (cI, 100, .inl ((sCovO a z i) 17))), (q0 17, .inl (cI, 100, .inl ((sCovO a z i) 18))), (q0 18, .inr (1, [.ref (q0 19), .ref (q0 20), .ref (q0 21), .int ((sCovO a z i) 0 4)])), (q0 19, .inl (cI, capOf (nn ((sCovO a z i) 0 4)), .inl ((sCovO a z i) 20))), (q0 20, .inl (cI, capOf (nn ((sCovO a z i) 0 4)), .inl ((sCovO a z i) 19))), (q0 21, .inl (cI, capOf (nn ((sCovO a z i) 0 4)), .inl ((sCovO a z i) 21))), (q0 22, .inr (0, [.ref (q0 23), .ref (q0 24), .ref (q0 25), .int (nI k0)])), (q0 23, .inl (cI, 8, .inl (jc0))), (q0 24, .inl (cI, 256, .inl (js0))), (q0 25, .inl (cI, 256, .inl (jv0))), (q0 26, .inl (cF, 4, .inr (.inr (.inl (fun j => shF ((sCovO a z i) 9 j))))))] ∧ va_S A s.heap H locs ∧ lv_has ls 4 [(2, .int (nI i)), (1, .int (nI z)), (0, .ref h0)]) (nn (a 0 0)) ⟨0, q, jc, js, jv, k, by omega, hC, hP, hD, hS, lv_sub hl [0, 2, 1] rfl⟩ (fun k9 H locs ls hI ih => ?_)
  obtain ⟨i, q0, jc0, js0, jv0, k0, hf0, hf1, hP, hD, hS, hl⟩ := hI
  have hBi := okB_covO hB z i
  refine lv_iload_n hx hb dX4_coverFromOwner_2 rfl (lv_at hl 0 rfl) ?_
  refine lv_aload_n hx hb dX4_coverFromOwner_3 rfl (lv_at hl 2 rfl) ?_
  refine va_get (D := (dC, dI)) (ci := 4) (v := .ref (q0 1)) (C := RX4) (T := TX4) (N := 11) hx hb hts hiX4 hown hK hP 0 rfl rfl 0 (by decide) (hts (.fieldLink RX4 10 "Payoutnet" "shops" "LPayoutnet$Shops;") (List.mem_of_getElem? (i := 1) rfl)) (fun _ h9 => h9) rfl dX4_coverFromOwner_4 ?_
  refine va_get (D := (dC, dI)) (ci := 3) (v := .int ((sCovO a z i) 0 0)) (C := RX3) (T := TX3) (N := 9) hx hb hts hiX3 hown hK hP 1 rfl rfl 8 (by decide) (hts (.fieldLink RX4 52 "Payoutnet$Shops" "count" "I") (List.mem_of_getElem? (i := 2) rfl)) (fun _ h9 => h9) rfl dX4_coverFromOwner_7 ?_
  refine y_topi (y := nI (nn (a 0 0))) (by rw [sCovO_oth a z i (by decide)]; exact hn.1) ?_
  refine lv_icmp_ge (tgt := 100) hx hb dX4_coverFromOwner_10 (by decide) (fun c_1 => ?_) (fun c_1 => ?_)
  · have hik : i = nn (a 0 0) := by have := (nI_leI (a := nn (a 0 0)) (b := i) (by omega) (by omega)).mp c_1; omega
    rw [hik] at hP hD hf1
    have hP9 := hP
    have hD9 := hD
    have hK9 := hK
    exact W.vret hx hb hr (fun t ht hW => ⟨⟨(), rfl, trivial, atC_in hf1 (atW_end hP9 hD9 hK9 ht hW)⟩, hS.F ht⟩) hS.2.2 dX4_coverFromOwner_100
  · have hik : i < nn (a 0 0) := Nat.lt_of_not_le (fun h => c_1 ((nI_leI (a := nn (a 0 0)) (b := i) (by omega) (by omega)).mpr h))
    refine lv_aload_n hx hb dX4_coverFromOwner_13 rfl (lv_at hl 2 rfl) ?_
    refine va_get (D := (dC, dI)) (ci := 4) (v := .ref (q0 1)) (C := RX4) (T := TX4) (N := 11) hx hb hts hiX4 hown hK hP 0 rfl rfl 0 (by decide) (hts (.fieldLink RX4 10 "Payoutnet" "shops" "LPayoutnet$Shops;") (List.mem_of_getElem? (i := 1) rfl)) (fun _ h9 => h9) rfl dX4_coverFromOwner_14 ?_
    refine va_get (D := (dC, dI)) (ci := 3) (v := .ref (q0 8)) (C := RX3) (T := TX3) (N := 9) hx hb hts hiX3 hown hK hP 1 rfl rfl 6 (by decide) (hts (.fieldLink RX4 168 "Payoutnet$Shops" "balance" "[I") (List.mem_of_getElem? (i := 3) rfl)) (fun _ h9 => h9) rfl dX4_coverFromOwner_17 ?_
    refine lv_iload_n hx hb dX4_coverFromOwner_20 rfl (lv_at hl 1 rfl) ?_
    refine y_ild hx hb hK hP 8 0 rfl rfl (t := z) (by omega) (Nat.le_of_ble_eq_true rfl) dX4_coverFromOwner_21 ?_
    refine lv_if_ge (tgt := 100) hx hb dX4_coverFromOwner_22 (by decide) (fun c_2 => ?_) (fun c_2 => ?_)
    · have e9 := sCovO_stop (a := a) (z := z) (i := i) (Int32.not_lt.mpr c_2) (nn (a 0 0)) (by omega)
      rw [← e9] at hP hD hf1
      have hP9 := hP
      have hD9 := hD
      have hK9 := hK
      exact W.vret hx hb hr (fun t ht hW => ⟨⟨(), rfl, trivial, atC_in hf1 (atW_end hP9 hD9 hK9 ht hW)⟩, hS.F ht⟩) hS.2.2 dX4_coverFromOwner_100
    · have hneg := Int32.not_le.mp c_2
      refine lv_aload_n hx hb dX4_coverFromOwner_25 rfl (lv_at hl 2 rfl) ?_
      refine va_get (D := (dC, dI)) (ci := 4) (v := .ref (q0 1)) (C := RX4) (T := TX4) (N := 11) hx hb hts hiX4 hown hK hP 0 rfl rfl 0 (by decide) (hts (.fieldLink RX4 10 "Payoutnet" "shops" "LPayoutnet$Shops;") (List.mem_of_getElem? (i := 1) rfl)) (fun _ h9 => h9) rfl dX4_coverFromOwner_26 ?_
      refine va_get (D := (dC, dI)) (ci := 3) (v := .ref (q0 2)) (C := RX3) (T := TX3) (N := 9) hx hb hts hiX3 hown hK hP 1 rfl rfl 0 (by decide) (hts (.fieldLink RX4 241 "Payoutnet$Shops" "owner" "[I") (List.mem_of_getElem? (i := 4) rfl)) (fun _ h9 => h9) rfl dX4_coverFromOwner_29 ?_
      refine lv_iload_n hx hb dX4_coverFromOwner_32 rfl (lv_at hl 0 rfl) ?_
      refine y_ild hx hb hK hP 2 0 rfl rfl (t := i) (by omega) (Nat.le_of_ble_eq_true rfl) dX4_coverFromOwner_33 ?_
      refine lv_aload_n hx hb dX4_coverFromOwner_34 rfl (lv_at hl 2 rfl) ?_
      refine va_get (D := (dC, dI)) (ci := 4) (v := .ref (q0 1)) (C := RX4) (T := TX4) (N := 11) hx hb hts hiX4 hown hK hP 0 rfl rfl 0 (by decide) (hts (.fieldLink RX4 10 "Payoutnet" "shops" "LPayoutnet$Shops;") (List.mem_of_getElem? (i := 1) rfl)) (fun _ h9 => h9) rfl dX4_coverFromOwner_35 ?_
      refine va_get (D := (dC, dI)) (ci := 3) (v := .ref (q0 2)) (C := RX3) (T := TX3) (N := 9) hx hb hts hiX3 hown hK hP 1 rfl rfl 0 (by decide) (hts (.fieldLink RX4 241 "Payoutnet$Shops" "owner" "[I") (List.mem_of_getElem? (i := 4) rfl)) (fun _ h9 => h9) rfl dX4_coverFromOwner_38 ?_
      refine lv_iload_n hx hb dX4_coverFromOwner_41 rfl (lv_at hl 1 rfl) ?_
      refine y_ild hx hb hK hP 2 0 rfl rfl (t := z) (by omega) (Nat.le_of_ble_eq_true rfl) dX4_coverFromOwner_42 ?_
      refine lv_icmp_ne (tgt := 94) hx hb dX4_coverFromOwner_43 (by decide) (fun c_3 => ?_) (fun c_3 => ?_)
      · have e9 : sCovO a z (i + 1) = sCovO a z i := if_neg (fun q9 => c_3 q9.2.1)
        refine lv_iinc (v := nI (i + 1)) (lv' := [(2, .int (nI (i + 1))), (1, .int (nI z)), (0, .ref h0)]) hx hb dX4_coverFromOwner_94 hl (k := 0) rfl (nI_1 i) (by decide) rfl (fun ls hl => ?_)
        refine lv_goto (tgt := 2) hx hb dX4_coverFromOwner_97 (by decide) ?_
        rw [← e9] at hP hD hf1
        exact ih (k9 - 1) H locs ls (by omega) ⟨i + 1, q0, jc0, js0, jv0, k0, by omega, hf1, hP, hD, hS, lv_sub hl [0, 1, 2] rfl⟩
      · refine lv_aload_n hx hb dX4_coverFromOwner_46 rfl (lv_at hl 2 rfl) ?_
        refine va_get (D := (dC, dI)) (ci := 4) (v := .ref (q0 1)) (C := RX4) (T := TX4) (N := 11) hx hb hts hiX4 hown hK hP 0 rfl rfl 0 (by decide) (hts (.fieldLink RX4 10 "Payoutnet" "shops" "LPayoutnet$Shops;") (List.mem_of_getElem? (i := 1) rfl)) (fun _ h9 => h9) rfl dX4_coverFromOwner_47 ?_
        refine va_get (D := (dC, dI)) (ci := 3) (v := .ref (q0 8)) (C := RX3) (T := TX3) (N := 9) hx hb hts hiX3 hown hK hP 1 rfl rfl 6 (by decide) (hts (.fieldLink RX4 168 "Payoutnet$Shops" "balance" "[I") (List.mem_of_getElem? (i := 3) rfl)) (fun _ h9 => h9) rfl dX4_coverFromOwner_50 ?_
        refine lv_iload_n hx hb dX4_coverFromOwner_53 rfl (lv_at hl 0 rfl) ?_
        refine y_ild hx hb hK hP 8 0 rfl rfl (t := i) (by omega) (Nat.le_of_ble_eq_true rfl) dX4_coverFromOwner_54 ?_
        refine lv_if_le (tgt := 94) hx hb dX4_coverFromOwner_55 (by decide) (fun c_4 => ?_) (fun c_4 => ?_)
        · have e9 : sCovO a z (i + 1) = sCovO a z i := if_neg (fun q9 => Int32.not_lt.mpr c_4 q9.2.2)
          refine lv_iinc (v := nI (i + 1)) (lv' := [(2, .int (nI (i + 1))), (1, .int (nI z)), (0, .ref h0)]) hx hb dX4_coverFromOwner_94 hl (k := 0) rfl (nI_1 i) (by decide) rfl (fun ls hl => ?_)
          refine lv_goto (tgt := 2) hx hb dX4_coverFromOwner_97 (by decide) ?_
          rw [← e9] at hP hD hf1
          exact ih (k9 - 1) H locs ls (by omega) ⟨i + 1, q0, jc0, js0, jv0, k0, by omega, hf1, hP, hD, hS, lv_sub hl [0, 1, 2] rfl⟩
        · refine lv_aload_n hx hb dX4_coverFromOwner_58 rfl (lv_at hl 2 rfl) ?_
          refine va_get (D := (dC, dI)) (ci := 4) (v := .ref (q0 1)) (C := RX4) (T := TX4) (N := 11) hx hb hts hiX4 hown hK hP 0 rfl rfl 0 (by decide) (hts (.fieldLink RX4 10 "Payoutnet" "shops" "LPayoutnet$Shops;") (List.mem_of_getElem? (i := 1) rfl)) (fun _ h9 => h9) rfl dX4_coverFromOwner_59 ?_
          refine va_get (D := (dC, dI)) (ci := 3) (v := .ref (q0 8)) (C := RX3) (T := TX3) (N := 9) hx hb hts hiX3 hown hK hP 1 rfl rfl 6 (by decide) (hts (.fieldLink RX4 168 "Payoutnet$Shops" "balance" "[I") (List.mem_of_getElem? (i := 3) rfl)) (fun _ h9 => h9) rfl dX4_coverFromOwner_62 ?_
          refine lv_iload_n hx hb dX4_coverFromOwner_65 rfl (lv_at hl 0 rfl) ?_
          refine y_ild hx hb hK hP 8 0 rfl rfl (t := i) (by omega) (Nat.le_of_ble_eq_true rfl) dX4_coverFromOwner_66 ?_
          refine lv_aload_n hx hb dX4_coverFromOwner_67 rfl (lv_at hl 2 rfl) ?_
          refine va_get (D := (dC, dI)) (ci := 4) (v := .ref (q0 1)) (C := RX4) (T := TX4) (N := 11) hx hb hts hiX4 hown hK hP 0 rfl rfl 0 (by decide) (hts (.fieldLink RX4 10 "Payoutnet" "shops" "LPayoutnet$Shops;") (List.mem_of_getElem? (i := 1) rfl)) (fun _ h9 => h9) rfl dX4_coverFromOwner_68 ?_
          refine va_get (D := (dC, dI)) (ci := 3) (v := .ref (q0 8)) (C := RX3) (T := TX3) (N := 9) hx hb hts hiX3 hown hK hP 1 rfl rfl 6 (by decide) (hts (.fieldLink RX4 168 "Payoutnet$Shops" "balance" "[I") (List.mem_of_getElem? (i := 3) rfl)) (fun _ h9 => h9) rfl dX4_coverFromOwner_71 ?_
          refine lv_iload_n hx hb dX4_coverFromOwner_74 rfl (lv_at hl 1 rfl) ?_
          refine y_ild hx hb hK hP 8 0 rfl rfl (t := z) (by omega) (Nat.le_of_ble_eq_true rfl) dX4_coverFromOwner_75 ?_
          refine lv_ineg hx hb dX4_coverFromOwner_76 ?_
          refine va_mmin hx hb (hml.trans hl.1.symm) hown (hts (.methodLink RX4 119 Lib.Math.min.name) (List.mem_of_getElem? (i := 5) rfl)) (hts (.static Lib.Math.min.name) (List.mem_of_getElem? (i := 6) rfl)) (hts (.initialized "java/lang/Math") (List.mem_of_getElem? (i := 7) rfl)) (hts (.code Lib.Math.min.name Lib.Math.min.code 2 (some .int)) (List.mem_of_getElem? (i := 8) rfl)) (Nat.le_of_ble_eq_true rfl) (Nat.le_of_ble_eq_true rfl) (Nat.zero_le _) (Nat.zero_le _) dX4_coverFromOwner_77 ?_
          refine y_topi (y := imin (sCovO a z i 7 i) (-(sCovO a z i 7 z))) rfl ?_
          have e9 : sCovO a z (i + 1) = sGive (sCovO a z i) i z (imin (sCovO a z i 7 i) (-(sCovO a z i 7 z))) := if_pos ⟨hneg, c_3, Int32.not_le.mp c_4⟩
          refine lv_istore_n (lv' := [(3, .int (imin (sCovO a z i 7 i) (-(sCovO a z i 7 z)))), (2, .int (nI i)), (1, .int (nI z)), (0, .ref h0)]) hx hb dX4_coverFromOwner_80 rfl hl (by decide) rfl (fun ls hl => ?_)
          refine lv_aload_n hx hb dX4_coverFromOwner_81 rfl (lv_at hl 3 rfl) ?_
          refine lv_iload_n hx hb dX4_coverFromOwner_82 rfl (lv_at hl 1 rfl) ?_
          refine lv_iload_n hx hb dX4_coverFromOwner_83 rfl (lv_at hl 0 rfl) ?_
          refine lv_ineg hx hb dX4_coverFromOwner_84 ?_
          have hFc := y_free hD hS hA
          refine va_callv (va_runV (As := [.int (nI i), .int (-(imin (sCovO a z i 7 i) (-(sCovO a z i 7 z))))]) (rest := []) ⟨hx, hb, hml, hown, hts⟩ (c_X4_post l dC dI cI cF h0 q0 H.size (sCovO a z i) jc0 js0 jv0 k0 hf1 hBi i (by omega) (-(imin (sCovO a z i 7 i) (-(sCovO a z i 7 z))))) (cwV 2 hts gX4_coverFromOwner_X4_post rfl rfl rfl (by decide +kernel) ⟨Nat.le_of_ble_eq_true rfl, Nat.le_of_ble_eq_true rfl⟩) ⟨pcW_blind, va_recv hK hP (ci := 4) (q0 := 0) rfl rfl, fun U hU hW => pcW_pre hP hD hK hU hW⟩ rfl rfl hl.1 rfl (lv_room (Nat.le_of_ble_eq_true rfl)) dX4_coverFromOwner_85 ⟨(Nat.zero_le _), (Nat.zero_le _)⟩) hS (fun q _ h => hFc q h) hFc (fun u t H1 locs ht hvm hw hB1 hz1 hk1 hS => ?_)
          obtain ⟨q5, jc5, js5, jv5, k5, hC5, hP, hK1, hD1⟩ := hB1
          rw [ht] at hP
          have hD := hD1.weaken (fun kk qq _ h => hFc qq.1 h)
          generalize H1 = H at hP hS ⊢
          have hC5 : okC (sPost (sCovO a z i) i (-(imin (sCovO a z i 7 i) (-(sCovO a z i 7 z))))) jc5 js5 jv5 k5 := hC5
          have hP : va_P (dC, dI) vwCl (WC cI cF h0 q5 (sPost (sCovO a z i) i (-(imin (sCovO a z i 7 i) (-(sCovO a z i 7 z))))) jc5 js5 jv5 k5 (capOf (nn ((sPost (sCovO a z i) i (-(imin (sCovO a z i 7 i) (-(sCovO a z i 7 z))))) 0 4)))) H := hP
          have hD : va_D A (WC cI cF h0 q5 (sPost (sCovO a z i) i (-(imin (sCovO a z i 7 i) (-(sCovO a z i 7 z))))) jc5 js5 jv5 k5 (capOf (nn ((sPost (sCovO a z i) i (-(imin (sCovO a z i 7 i) (-(sCovO a z i 7 z))))) 0 4)))) := hD
          have hB3 := okB_post hBi i (-(imin (sCovO a z i 7 i) (-(sCovO a z i 7 z))))
          refine lv_aload_n hx hb dX4_coverFromOwner_88 rfl (lv_at hl 3 rfl) ?_
          refine lv_iload_n hx hb dX4_coverFromOwner_89 rfl (lv_at hl 2 rfl) ?_
          refine lv_iload_n hx hb dX4_coverFromOwner_90 rfl (lv_at hl 0 rfl) ?_
          have hFc := y_free hD hS hA
          refine va_callv (va_runV (As := [.int (nI z), .int (imin (sCovO a z i 7 i) (-(sCovO a z i 7 z)))]) (rest := []) ⟨hx, hb, hml, hown, hts⟩ (c_X4_post l dC dI cI cF h0 q5 H.size (sPost (sCovO a z i) i (-(imin (sCovO a z i 7 i) (-(sCovO a z i 7 z))))) jc5 js5 jv5 k5 hC5 hB3 z hz (imin (sCovO a z i 7 i) (-(sCovO a z i 7 z)))) (cwV 2 hts gX4_coverFromOwner_X4_post rfl rfl rfl (by decide +kernel) ⟨Nat.le_of_ble_eq_true rfl, Nat.le_of_ble_eq_true rfl⟩) ⟨pcW_blind, va_recv hK hP (ci := 4) (q0 := 0) rfl rfl, fun U hU hW => pcW_pre hP hD hK hU hW⟩ rfl rfl hl.1 rfl (lv_room (Nat.le_of_ble_eq_true rfl)) dX4_coverFromOwner_91 ⟨(Nat.zero_le _), (Nat.zero_le _)⟩) hS (fun q _ h => hFc q h) hFc (fun u t H1 locs ht hvm hw hB1 hz1 hk1 hS => ?_)
          obtain ⟨q6, jc6, js6, jv6, k6, hC6, hP, hK1, hD1⟩ := hB1
          rw [ht] at hP
          have hD := hD1.weaken (fun kk qq _ h => hFc qq.1 h)
          generalize H1 = H at hP hS ⊢
          have hC6 : okC (sGive (sCovO a z i) i z (imin (sCovO a z i 7 i) (-(sCovO a z i 7 z)))) jc6 js6 jv6 k6 := hC6
          have hP : va_P (dC, dI) vwCl (WC cI cF h0 q6 (sGive (sCovO a z i) i z (imin (sCovO a z i 7 i) (-(sCovO a z i 7 z)))) jc6 js6 jv6 k6 (capOf (nn ((sGive (sCovO a z i) i z (imin (sCovO a z i 7 i) (-(sCovO a z i 7 z)))) 0 4)))) H := hP
          have hD : va_D A (WC cI cF h0 q6 (sGive (sCovO a z i) i z (imin (sCovO a z i 7 i) (-(sCovO a z i 7 z)))) jc6 js6 jv6 k6 (capOf (nn ((sGive (sCovO a z i) i z (imin (sCovO a z i 7 i) (-(sCovO a z i 7 z)))) 0 4)))) := hD
          refine lv_iinc (v := nI (i + 1)) (lv' := [(2, .int (nI (i + 1))), (3, .int (imin (sCovO a z i 7 i) (-(sCovO a z i 7 z)))), (1, .int (nI z)), (0, .ref h0)]) hx hb dX4_coverFromOwner_94 hl (k := 1) rfl (nI_1 i) (by decide) rfl (fun ls hl => ?_)
          refine lv_goto (tgt := 2) hx hb dX4_coverFromOwner_97 (by decide) ?_
          rw [← e9] at hP hD hC6
          exact ih (k9 - 1) H locs ls (by omega) ⟨i + 1, q6, jc6, js6, jv6, k6, by omega, hC6, hP, hD, hS, lv_sub hl [0, 2, 3] rfl⟩
set_option maxHeartbeats 4000000 in
set_option maxRecDepth 100000 in
theorem c_X4_dueTo (l : Launch) (dC : Nat → ClassId) (dI : Nat → Nat → Nat) (cI cF : ClassId) (h0 : Nat) (q : Nat → Nat) (sz : Nat) (a : yA) (jc js jv : Nat → Int32) (k : Nat) (hC : okC a jc js jv k) (hB : okB a) (z : Nat) (hz : z < 8) : Met l yX4_dueTo wsX4_dueTo ({ frames := 2, cells := 0, slots := 0, locals := 38 } : Room) (va_Pc [.ref h0, .int (nI z)] (pcW dC dI [(cI, .int), (cF, .float)] (WC cI cF h0 q a jc js jv k (capOf (nn (a 0 4)))) sz)) (va_Qi (fun (r : Int32) (_ : Unit) => r = sDue a z) (fun _ t => atC dC dI cI cF (va_A (WC cI cF h0 q a jc js jv k (capOf (nn (a 0 4)))) sz) h0 (a) t) (va_A (WC cI cF h0 q a jc js jv k (capOf (nn (a 0 4)))) sz)) 0 0 (va_A (WC cI cF h0 q a jc js jv k (capOf (nn (a 0 4)))) sz) := by
  refine Met.ofW (cc := cX4_dueTo) (maxL := 3) (ret := (some .int)) (by decide) rfl ?_
  intro p e s m args below meth c s₁ B hml hv
  obtain ⟨rfl, hsz, hP, hK, hD0⟩ := hv
  have hx := B.exec
  have hb := B.bytes
  have hr := B.returns
  have hts := atoms_spec (ws := wsX4_dueTo) B.pre
  have hown : s.vm.findClass RX4 = some m.cls := findClass_of_methodNamed B.named
  have hlocks := B.notSynchronized
  subst hsz
  have hD := hD0.self (sz := s.heap.size)
  generalize hAe : va_A [(h0, .inr (4, [.ref (q 1), .ref (q 10), .ref (q 18), .ref (q 22), .ref (q 26), .int (a 0 2), .int (a 0 1), .int (a 0 5), .int (a 0 6), .int (a 0 7), .int (a 0 8)])), (q 1, .inr (3, [.ref (q 2), .ref (q 3), .ref (q 4), .ref (q 5), .ref (q 6), .ref (q 7), .ref (q 8), .ref (q 9), .int (a 0 0)])), (q 2, .inl (cI, 8, .inl (a 1))), (q 3, .inl (cI, 8, .inl (a 2))), (q 4, .inl (cI, 8, .inl (a 3))), (q 5, .inl (cI, 8, .inl (a 4))), (q 6, .inl (cI, 8, .inl (a 5))), (q 7, .inl (cI, 8, .inl (a 6))), (q 8, .inl (cI, 8, .inl (a 7))), (q 9, .inl (cI, 8, .inl (a 8))), (q 10, .inr (2, [.ref (q 11), .ref (q 12), .ref (q 13), .ref (q 14), .ref (q 15), .ref (q 16), .ref (q 17), .int (a 0 3)])), (q 11, .inl (cI, 100, .inl (a 10))), (q 12, .inl (cF, 100, .inr (.inr (.inl (fun j => shF (a 13 j)))))), (q 13, .inl (cI, 100, .inl (a 14))), (q 14, .inl (cI, 100, .inl (fun j => a 11 j - a 12 j))), (q 15, .inl (cI, 100, .inl (fun j => a 15 j - a 16 j))), (q 16, .inl (cI, 100, .inl (a 17))), (q 17, .inl (cI, 100, .inl (a 18))), (q 18, .inr (1, [.ref (q 19), .ref (q 20), .ref (q 21), .int (a 0 4)])), (q 19, .inl (cI, capOf (nn (a 0 4)), .inl (a 20))), (q 20, .inl (cI, capOf (nn (a 0 4)), .inl (a 19))), (q 21, .inl (cI, capOf (nn (a 0 4)), .inl (a 21))), (q 22, .inr (0, [.ref (q 23), .ref (q 24), .ref (q 25), .int (nI k)])), (q 23, .inl (cI, 8, .inl (jc))), (q 24, .inl (cI, 256, .inl (js))), (q 25, .inl (cI, 256, .inl (jv))), (q 26, .inl (cF, 4, .inr (.inr (.inl (fun j => shF (a 9 j))))))] s.heap.size = A at hD ⊢
  have hA : ∀ q : Nat, s.heap.size ≤ q → A q := fun q h => by rw [← hAe]; exact Or.inr h
  have hS : va_S A s.heap s.heap [] := va_S.rf
  have hl := lv_entry ([.ref h0, .int (nI z)]) (n := 3) (Nat.le_of_ble_eq_true rfl)
  rw [lg_entry_eq]
  generalize (lg_sl ([.ref h0, .int (nI z)]) ++ List.replicate (3 - (lg_sl ([.ref h0, .int (nI z)])).length) Slot.unset).toArray = ls at hl ⊢
  have hl : lv_has ls 3 [(0, .ref h0), (1, .int (nI z))] := hl
  have hiX4 : ∀ w ∈ wsX40, w ∈ wsX4_dueTo := fun w h => List.mem_cons_of_mem _ (List.mem_append_left _ (List.mem_append_right _ h))
  have hiX3 : ∀ w ∈ wsX30, w ∈ wsX4_dueTo := fun w h => List.mem_cons_of_mem _ (List.mem_append_right _ h)
  have hP : va_P (dC, dI) vwCl [(h0, .inr (4, [.ref (q 1), .ref (q 10), .ref (q 18), .ref (q 22), .ref (q 26), .int (a 0 2), .int (a 0 1), .int (a 0 5), .int (a 0 6), .int (a 0 7), .int (a 0 8)])), (q 1, .inr (3, [.ref (q 2), .ref (q 3), .ref (q 4), .ref (q 5), .ref (q 6), .ref (q 7), .ref (q 8), .ref (q 9), .int (a 0 0)])), (q 2, .inl (cI, 8, .inl (a 1))), (q 3, .inl (cI, 8, .inl (a 2))), (q 4, .inl (cI, 8, .inl (a 3))), (q 5, .inl (cI, 8, .inl (a 4))), (q 6, .inl (cI, 8, .inl (a 5))), (q 7, .inl (cI, 8, .inl (a 6))), (q 8, .inl (cI, 8, .inl (a 7))), (q 9, .inl (cI, 8, .inl (a 8))), (q 10, .inr (2, [.ref (q 11), .ref (q 12), .ref (q 13), .ref (q 14), .ref (q 15), .ref (q 16), .ref (q 17), .int (a 0 3)])), (q 11, .inl (cI, 100, .inl (a 10))), (q 12, .inl (cF, 100, .inr (.inr (.inl (fun j => shF (a 13 j)))))), (q 13, .inl (cI, 100, .inl (a 14))), (q 14, .inl (cI, 100, .inl (fun j => a 11 j - a 12 j))), (q 15, .inl (cI, 100, .inl (fun j => a 15 j - a 16 j))), (q 16, .inl (cI, 100, .inl (a 17))), (q 17, .inl (cI, 100, .inl (a 18))), (q 18, .inr (1, [.ref (q 19), .ref (q 20), .ref (q 21), .int (a 0 4)])), (q 19, .inl (cI, capOf (nn (a 0 4)), .inl (a 20))), (q 20, .inl (cI, capOf (nn (a 0 4)), .inl (a 19))), (q 21, .inl (cI, capOf (nn (a 0 4)), .inl (a 21))), (q 22, .inr (0, [.ref (q 23), .ref (q 24), .ref (q 25), .int (nI k)])), (q 23, .inl (cI, 8, .inl (jc))), (q 24, .inl (cI, 256, .inl (js))), (q 25, .inl (cI, 256, .inl (jv))), (q 26, .inl (cF, 4, .inr (.inr (.inl (fun j => shF (a 9 j))))))] s.heap := hP
  refine y_enter (A := A) hP (fun H hP hS => ?_)
  refine lv_aload_n hx hb dX4_dueTo_0 rfl (lv_at hl 0 rfl) ?_
  refine va_get (D := (dC, dI)) (ci := 4) (v := .ref (q 1)) (C := RX4) (T := TX4) (N := 11) hx hb hts hiX4 hown hK hP 0 rfl rfl 0 (by decide) (hts (.fieldLink RX4 10 "Payoutnet" "shops" "LPayoutnet$Shops;") (List.mem_of_getElem? (i := 1) rfl)) (fun _ h9 => h9) rfl dX4_dueTo_1 ?_
  refine va_get (D := (dC, dI)) (ci := 3) (v := .ref (q 8)) (C := RX3) (T := TX3) (N := 9) hx hb hts hiX3 hown hK hP 1 rfl rfl 6 (by decide) (hts (.fieldLink RX4 168 "Payoutnet$Shops" "balance" "[I") (List.mem_of_getElem? (i := 2) rfl)) (fun _ h9 => h9) rfl dX4_dueTo_4 ?_
  refine lv_iload_n hx hb dX4_dueTo_7 rfl (lv_at hl 1 rfl) ?_
  refine y_ild hx hb hK hP 8 0 rfl rfl (t := z) (by omega) (Nat.le_of_ble_eq_true rfl) dX4_dueTo_8 ?_
  refine lv_istore_n (lv' := [(2, .int ((a 7) z)), (0, .ref h0), (1, .int (nI z))]) hx hb dX4_dueTo_9 rfl hl (by decide) rfl (fun ls hl => ?_)
  refine lv_aload_n hx hb dX4_dueTo_10 rfl (lv_at hl 1 rfl) ?_
  refine va_get (D := (dC, dI)) (ci := 4) (v := .ref (q 1)) (C := RX4) (T := TX4) (N := 11) hx hb hts hiX4 hown hK hP 0 rfl rfl 0 (by decide) (hts (.fieldLink RX4 10 "Payoutnet" "shops" "LPayoutnet$Shops;") (List.mem_of_getElem? (i := 1) rfl)) (fun _ h9 => h9) rfl dX4_dueTo_11 ?_
  refine va_get (D := (dC, dI)) (ci := 3) (v := .ref (q 3)) (C := RX3) (T := TX3) (N := 9) hx hb hts hiX3 hown hK hP 1 rfl rfl 1 (by decide) (hts (.fieldLink RX4 73 "Payoutnet$Shops" "step" "[I") (List.mem_of_getElem? (i := 3) rfl)) (fun _ h9 => h9) rfl dX4_dueTo_14 ?_
  refine lv_iload_n hx hb dX4_dueTo_17 rfl (lv_at hl 2 rfl) ?_
  refine y_ild hx hb hK hP 3 0 rfl rfl (t := z) (by omega) (Nat.le_of_ble_eq_true rfl) dX4_dueTo_18 ?_
  refine lv_if_eq (tgt := 35) hx hb dX4_dueTo_19 (by decide) (fun c_1 => ?_) (fun c_1 => ?_)
  · refine lv_iconst (v := 0) hx hb dX4_dueTo_35 (by decide) ?_
    have e9 : (0 : Int32) = sDue a z := (if_pos (Or.inl c_1)).symm
    have hP9 := hP
    have hD9 := hD
    have hK9 := hK
    exact W.iret (v := 0) hx hb hr (fun t ht hW => ⟨⟨0, (), rfl, e9, atC_in hC (atW_end hP9 hD9 hK9 ht hW)⟩, hS.F ht⟩) hS.2.2 dX4_dueTo_36
  · refine lv_iload_n hx hb dX4_dueTo_22 rfl (lv_at hl 0 rfl) ?_
    refine lv_aload_n hx hb dX4_dueTo_23 rfl (lv_at hl 1 rfl) ?_
    refine va_get (D := (dC, dI)) (ci := 4) (v := .ref (q 1)) (C := RX4) (T := TX4) (N := 11) hx hb hts hiX4 hown hK hP 0 rfl rfl 0 (by decide) (hts (.fieldLink RX4 10 "Payoutnet" "shops" "LPayoutnet$Shops;") (List.mem_of_getElem? (i := 1) rfl)) (fun _ h9 => h9) rfl dX4_dueTo_24 ?_
    refine va_get (D := (dC, dI)) (ci := 3) (v := .ref (q 5)) (C := RX3) (T := TX3) (N := 9) hx hb hts hiX3 hown hK hP 1 rfl rfl 3 (by decide) (hts (.fieldLink RX4 81 "Payoutnet$Shops" "least" "[I") (List.mem_of_getElem? (i := 4) rfl)) (fun _ h9 => h9) rfl dX4_dueTo_27 ?_
    refine lv_iload_n hx hb dX4_dueTo_30 rfl (lv_at hl 2 rfl) ?_
    refine y_ild hx hb hK hP 5 0 rfl rfl (t := z) (by omega) (Nat.le_of_ble_eq_true rfl) dX4_dueTo_31 ?_
    refine lv_icmp_ge (tgt := 37) hx hb dX4_dueTo_32 (by decide) (fun c_2 => ?_) (fun c_2 => ?_)
    · refine lv_aload_n hx hb dX4_dueTo_37 rfl (lv_at hl 1 rfl) ?_
      refine va_get (D := (dC, dI)) (ci := 4) (v := .ref (q 1)) (C := RX4) (T := TX4) (N := 11) hx hb hts hiX4 hown hK hP 0 rfl rfl 0 (by decide) (hts (.fieldLink RX4 10 "Payoutnet" "shops" "LPayoutnet$Shops;") (List.mem_of_getElem? (i := 1) rfl)) (fun _ h9 => h9) rfl dX4_dueTo_38 ?_
      refine va_get (D := (dC, dI)) (ci := 3) (v := .ref (q 3)) (C := RX3) (T := TX3) (N := 9) hx hb hts hiX3 hown hK hP 1 rfl rfl 1 (by decide) (hts (.fieldLink RX4 73 "Payoutnet$Shops" "step" "[I") (List.mem_of_getElem? (i := 3) rfl)) (fun _ h9 => h9) rfl dX4_dueTo_41 ?_
      refine lv_iload_n hx hb dX4_dueTo_44 rfl (lv_at hl 2 rfl) ?_
      refine y_ild hx hb hK hP 3 0 rfl rfl (t := z) (by omega) (Nat.le_of_ble_eq_true rfl) dX4_dueTo_45 ?_
      refine lv_iconst (v := 1) hx hb dX4_dueTo_46 (by decide) ?_
      refine lv_icmp_ne (tgt := 67) hx hb dX4_dueTo_47 (by decide) (fun c_3 => ?_) (fun c_3 => ?_)
      · have e9 : a 7 z = sDue a z := by unfold sDue; rw [if_neg (fun q9 => q9.elim c_1 (Int32.not_lt.mpr c_2)), if_neg c_3]
        refine lv_iload_n hx hb dX4_dueTo_67 rfl (lv_at hl 0 rfl) ?_
        have hP9 := hP
        have hD9 := hD
        have hK9 := hK
        exact W.iret (v := (a 7) z) hx hb hr (fun t ht hW => ⟨⟨(a 7) z, (), rfl, e9, atC_in hC (atW_end hP9 hD9 hK9 ht hW)⟩, hS.F ht⟩) hS.2.2 dX4_dueTo_68
      · refine lv_iload_n hx hb dX4_dueTo_50 rfl (lv_at hl 0 rfl) ?_
        refine lv_ldc hx hb hown (hts (.constant RX4 250 (100000)) (List.mem_of_getElem? (i := 5) rfl)) dX4_dueTo_51 ?_
        refine lv_aload_n hx hb dX4_dueTo_53 rfl (lv_at hl 1 rfl) ?_
        refine va_get (D := (dC, dI)) (ci := 4) (v := .ref (q 1)) (C := RX4) (T := TX4) (N := 11) hx hb hts hiX4 hown hK hP 0 rfl rfl 0 (by decide) (hts (.fieldLink RX4 10 "Payoutnet" "shops" "LPayoutnet$Shops;") (List.mem_of_getElem? (i := 1) rfl)) (fun _ h9 => h9) rfl dX4_dueTo_54 ?_
        refine va_get (D := (dC, dI)) (ci := 3) (v := .ref (q 9)) (C := RX3) (T := TX3) (N := 9) hx hb hts hiX3 hown hK hP 1 rfl rfl 7 (by decide) (hts (.fieldLink RX4 192 "Payoutnet$Shops" "paid" "[I") (List.mem_of_getElem? (i := 6) rfl)) (fun _ h9 => h9) rfl dX4_dueTo_57 ?_
        refine lv_iload_n hx hb dX4_dueTo_60 rfl (lv_at hl 2 rfl) ?_
        refine y_ild hx hb hK hP 9 0 rfl rfl (t := z) (by omega) (Nat.le_of_ble_eq_true rfl) dX4_dueTo_61 ?_
        refine lv_isub hx hb dX4_dueTo_62 ?_
        refine va_mmin hx hb (hml.trans hl.1.symm) hown (hts (.methodLink RX4 119 Lib.Math.min.name) (List.mem_of_getElem? (i := 7) rfl)) (hts (.static Lib.Math.min.name) (List.mem_of_getElem? (i := 8) rfl)) (hts (.initialized "java/lang/Math") (List.mem_of_getElem? (i := 9) rfl)) (hts (.code Lib.Math.min.name Lib.Math.min.code 2 (some .int)) (List.mem_of_getElem? (i := 10) rfl)) (Nat.le_of_ble_eq_true rfl) (Nat.le_of_ble_eq_true rfl) (Nat.zero_le _) (Nat.zero_le _) dX4_dueTo_63 ?_
        refine y_topi (y := imin (a 7 z) (100000 - a 8 z)) rfl ?_
        have e9 : imin (a 7 z) (100000 - a 8 z) = sDue a z := by unfold sDue; rw [if_neg (fun q9 => q9.elim c_1 (Int32.not_lt.mpr c_2)), if_pos c_3]
        have hP9 := hP
        have hD9 := hD
        have hK9 := hK
        exact W.iret (v := imin (a 7 z) (100000 - a 8 z)) hx hb hr (fun t ht hW => ⟨⟨imin (a 7 z) (100000 - a 8 z), (), rfl, e9, atC_in hC (atW_end hP9 hD9 hK9 ht hW)⟩, hS.F ht⟩) hS.2.2 dX4_dueTo_66
    · refine lv_iconst (v := 0) hx hb dX4_dueTo_35 (by decide) ?_
      have e9 : (0 : Int32) = sDue a z := (if_pos (Or.inr (Int32.not_le.mp c_2))).symm
      have hP9 := hP
      have hD9 := hD
      have hK9 := hK
      exact W.iret (v := 0) hx hb hr (fun t ht hW => ⟨⟨0, (), rfl, e9, atC_in hC (atW_end hP9 hD9 hK9 ht hW)⟩, hS.F ht⟩) hS.2.2 dX4_dueTo_36
