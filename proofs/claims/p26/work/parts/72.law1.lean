set_option maxHeartbeats 4000000 in
set_option maxRecDepth 100000 in
theorem c_L_isKept (l : Launch) (dC : Nat → ClassId) (dI : Nat → Nat → Nat) (cI cF : ClassId) (h0 : Nat) (q : Nat → Nat) (sz : Nat) (a : yA) (jc js jv : Nat → Int32) (k : Nat) (hst : l.stackTraces = false) (hC : okC a jc js jv k) {n : Nat} {m9 t9 : Int} (hI : okX a n m9 t9) (hn : n ≤ 200) (hm9 : m9 ≤ 90) (ht9 : t9 ≤ 7) (ht0 : 0 ≤ t9) : Met l yL_isKept wsL_isKept ({ frames := 9, cells := 1700, slots := 10200, locals := 154 } : Room) (va_Pc [.ref h0] (pcH dC dI [(cI, .int), (cF, .float)] (WC cI cF h0 q a jc js jv k (capOf (nn (a 0 4)))) sz)) (va_Qi (fun (r : Int32) (_ : Unit) => r = 1) (fun _ t => atC dC dI cI cF (va_A (WC cI cF h0 q a jc js jv k (capOf (nn (a 0 4)))) sz) h0 (a) t) (va_A (WC cI cF h0 q a jc js jv k (capOf (nn (a 0 4)))) sz)) (1700) (10200) (va_A (WC cI cF h0 q a jc js jv k (capOf (nn (a 0 4)))) sz) := by
  refine Met.ofW (cc := cL_isKept) (maxL := 5) (ret := (some .boolean)) (by decide) rfl ?_
  intro p e s m args below meth c s₁ B hml hv
  obtain ⟨rfl, ⟨⟨hsz, hP, hK, hD0⟩, hV⟩, hN⟩ := hv
  have hx := B.exec
  have hb := B.bytes
  have hr := B.returns
  have hts := atoms_spec (ws := wsL_isKept) B.pre
  have hown : s.vm.findClass RL = some m.cls := findClass_of_methodNamed B.named
  have hlocks := B.notSynchronized
  subst hsz
  have hD := hD0.self (sz := s.heap.size)
  generalize hAe : va_A [(h0, .inr (4, [.ref (q 1), .ref (q 10), .ref (q 18), .ref (q 22), .ref (q 26), .int (a 0 2), .int (a 0 1), .int (a 0 5), .int (a 0 6), .int (a 0 7), .int (a 0 8)])), (q 1, .inr (3, [.ref (q 2), .ref (q 3), .ref (q 4), .ref (q 5), .ref (q 6), .ref (q 7), .ref (q 8), .ref (q 9), .int (a 0 0)])), (q 2, .inl (cI, 8, .inl (a 1))), (q 3, .inl (cI, 8, .inl (a 2))), (q 4, .inl (cI, 8, .inl (a 3))), (q 5, .inl (cI, 8, .inl (a 4))), (q 6, .inl (cI, 8, .inl (a 5))), (q 7, .inl (cI, 8, .inl (a 6))), (q 8, .inl (cI, 8, .inl (a 7))), (q 9, .inl (cI, 8, .inl (a 8))), (q 10, .inr (2, [.ref (q 11), .ref (q 12), .ref (q 13), .ref (q 14), .ref (q 15), .ref (q 16), .ref (q 17), .int (a 0 3)])), (q 11, .inl (cI, 100, .inl (a 10))), (q 12, .inl (cF, 100, .inr (.inr (.inl (fun j => shF (a 13 j)))))), (q 13, .inl (cI, 100, .inl (a 14))), (q 14, .inl (cI, 100, .inl (fun j => a 11 j - a 12 j))), (q 15, .inl (cI, 100, .inl (fun j => a 15 j - a 16 j))), (q 16, .inl (cI, 100, .inl (a 17))), (q 17, .inl (cI, 100, .inl (a 18))), (q 18, .inr (1, [.ref (q 19), .ref (q 20), .ref (q 21), .int (a 0 4)])), (q 19, .inl (cI, capOf (nn (a 0 4)), .inl (a 20))), (q 20, .inl (cI, capOf (nn (a 0 4)), .inl (a 19))), (q 21, .inl (cI, capOf (nn (a 0 4)), .inl (a 21))), (q 22, .inr (0, [.ref (q 23), .ref (q 24), .ref (q 25), .int (nI k)])), (q 23, .inl (cI, 8, .inl (jc))), (q 24, .inl (cI, 256, .inl (js))), (q 25, .inl (cI, 256, .inl (jv))), (q 26, .inl (cF, 4, .inr (.inr (.inl (fun j => shF (a 9 j))))))] s.heap.size = A at hD hV ⊢
  have hA : ∀ q : Nat, s.heap.size ≤ q → A q := fun q h => by rw [← hAe]; exact Or.inr h
  have hS : va_S A s.heap s.heap [] := va_S.rf
  have hl := lv_entry ([.ref h0]) (n := 5) (Nat.le_of_ble_eq_true rfl)
  rw [lg_entry_eq]
  generalize (lg_sl ([.ref h0]) ++ List.replicate (5 - (lg_sl ([.ref h0])).length) Slot.unset).toArray = ls at hl ⊢
  have hl : lv_has ls 5 [(0, .ref h0)] := hl
  have hP : va_P (dC, dI) vwCl [(h0, .inr (4, [.ref (q 1), .ref (q 10), .ref (q 18), .ref (q 22), .ref (q 26), .int (a 0 2), .int (a 0 1), .int (a 0 5), .int (a 0 6), .int (a 0 7), .int (a 0 8)])), (q 1, .inr (3, [.ref (q 2), .ref (q 3), .ref (q 4), .ref (q 5), .ref (q 6), .ref (q 7), .ref (q 8), .ref (q 9), .int (a 0 0)])), (q 2, .inl (cI, 8, .inl (a 1))), (q 3, .inl (cI, 8, .inl (a 2))), (q 4, .inl (cI, 8, .inl (a 3))), (q 5, .inl (cI, 8, .inl (a 4))), (q 6, .inl (cI, 8, .inl (a 5))), (q 7, .inl (cI, 8, .inl (a 6))), (q 8, .inl (cI, 8, .inl (a 7))), (q 9, .inl (cI, 8, .inl (a 8))), (q 10, .inr (2, [.ref (q 11), .ref (q 12), .ref (q 13), .ref (q 14), .ref (q 15), .ref (q 16), .ref (q 17), .int (a 0 3)])), (q 11, .inl (cI, 100, .inl (a 10))), (q 12, .inl (cF, 100, .inr (.inr (.inl (fun j => shF (a 13 j)))))), (q 13, .inl (cI, 100, .inl (a 14))), (q 14, .inl (cI, 100, .inl (fun j => a 11 j - a 12 j))), (q 15, .inl (cI, 100, .inl (fun j => a 15 j - a 16 j))), (q 16, .inl (cI, 100, .inl (a 17))), (q 17, .inl (cI, 100, .inl (a 18))), (q 18, .inr (1, [.ref (q 19), .ref (q 20), .ref (q 21), .int (a 0 4)])), (q 19, .inl (cI, capOf (nn (a 0 4)), .inl (a 20))), (q 20, .inl (cI, capOf (nn (a 0 4)), .inl (a 19))), (q 21, .inl (cI, capOf (nn (a 0 4)), .inl (a 21))), (q 22, .inr (0, [.ref (q 23), .ref (q 24), .ref (q 25), .int (nI k)])), (q 23, .inl (cI, 8, .inl (jc))), (q 24, .inl (cI, 256, .inl (js))), (q 25, .inl (cI, 256, .inl (jv))), (q 26, .inl (cF, 4, .inr (.inr (.inl (fun j => shF (a 9 j))))))] s.heap := hP
  refine y_enter (A := A) hP (fun H hP hS => ?_)
  have hB := okA_B hI.1
  have hp4 := pays400 hI.1 hn
  have h8 := (hB 0 0 8 rfl).2
  obtain ⟨⟨g1, g2, g3, g4⟩, gS, gP, gZ, gK, gB⟩ := kept_ok hI hm9 ht9 ht0
  refine lv_aload_n hx hb dL_isKept_0 rfl (lv_at hl 0 rfl) ?_
  have hP : va_P (dC, dI) vwCl (WC cI cF h0 q a jc js jv k (capOf (nn (a 0 4)))) H := hP
  have hD : va_D A (WC cI cF h0 q a jc js jv k (capOf (nn (a 0 4)))) := hD
  have hFc := y_free hD hS hA
  have hPc := hP
  have hDc := hD
  refine va_calli (va_runV (As := []) (rest := []) ⟨hx, hb, hml, hown, hts⟩ (c_X4_refunded l dC dI cI cF h0 q H.size a jc js jv k hC hB) (cwV 0 hts gL_isKept_X4_refunded rfl rfl rfl (by decide +kernel) ⟨Nat.le_of_ble_eq_true rfl, Nat.le_of_ble_eq_true rfl⟩) ⟨pcW_blind, va_recv hK hPc (ci := 4) (q0 := 0) rfl rfl, fun U hU hW => pcW_pre hPc hDc hK hU hW⟩ rfl rfl hl.1 rfl (lv_room (Nat.le_of_ble_eq_true rfl)) dL_isKept_1 ⟨(by show 0 + 0 ≤ 1700; omega), (by show 0 + 0 ≤ 10200; omega)⟩) hS (fun q _ h => hFc q h) hFc (fun r u t H1 locs ht hvm hw hB1 hz1 hk1 hS => ?_)
  obtain ⟨qn1, jcn1, jsn1, jvn1, kn1, hCn1, hPy, hKy, hDy⟩ := hB1
  rw [ht] at hPy
  have hP : va_P (dC, dI) vwCl (WC cI cF h0 qn1 a jcn1 jsn1 jvn1 kn1 (capOf (nn (a 0 4)))) _ := hPy
  have hD : va_D A (WC cI cF h0 qn1 a jcn1 jsn1 jvn1 kn1 (capOf (nn (a 0 4)))) := hDy.weaken (fun kk qq _ h => hFc qq.1 h)
  generalize H1 = H at hP hS ⊢
  have hCn1 : okC a jcn1 jsn1 jvn1 kn1 := hCn1
  refine y_topi (y := a 0 6) hw ?_
  refine lv_aload_n hx hb dL_isKept_4 rfl (lv_at hl 0 rfl) ?_
  have hP : va_P (dC, dI) vwCl (WC cI cF h0 qn1 a jcn1 jsn1 jvn1 kn1 (capOf (nn (a 0 4)))) H := hP
  have hD : va_D A (WC cI cF h0 qn1 a jcn1 jsn1 jvn1 kn1 (capOf (nn (a 0 4)))) := hD
  have hFc := y_free hD hS hA
  have hPc := hP
  have hDc := hD
  refine va_calli (va_runV (As := []) (rest := [.int (a 0 6)]) ⟨hx, hb, hml, hown, hts⟩ (c_X4_fees l dC dI cI cF h0 qn1 H.size a jcn1 jsn1 jvn1 kn1 hCn1 hB) (cwV 0 hts gL_isKept_X4_fees rfl rfl rfl (by decide +kernel) ⟨Nat.le_of_ble_eq_true rfl, Nat.le_of_ble_eq_true rfl⟩) ⟨pcW_blind, va_recv hK hPc (ci := 4) (q0 := 0) rfl rfl, fun U hU hW => pcW_pre hPc hDc hK hU hW⟩ rfl rfl hl.1 rfl (lv_room (Nat.le_of_ble_eq_true rfl)) dL_isKept_5 ⟨(by show 0 + 0 + 0 ≤ 1700; omega), (by show 0 + 0 + 0 ≤ 10200; omega)⟩) hS (fun q _ h => hFc q h) hFc (fun r u t H1 locs ht hvm hw hB1 hz1 hk1 hS => ?_)
  obtain ⟨qn2, jcn2, jsn2, jvn2, kn2, hCn2, hPy, hKy, hDy⟩ := hB1
  rw [ht] at hPy
  have hP : va_P (dC, dI) vwCl (WC cI cF h0 qn2 a jcn2 jsn2 jvn2 kn2 (capOf (nn (a 0 4)))) _ := hPy
  have hD : va_D A (WC cI cF h0 qn2 a jcn2 jsn2 jvn2 kn2 (capOf (nn (a 0 4)))) := hDy.weaken (fun kk qq _ h => hFc qq.1 h)
  generalize H1 = H at hP hS ⊢
  have hCn2 : okC a jcn2 jsn2 jvn2 kn2 := hCn2
  refine y_topi (y := a 0 7) hw ?_
  refine lv_iadd hx hb dL_isKept_8 ?_
  refine lv_aload_n hx hb dL_isKept_9 rfl (lv_at hl 0 rfl) ?_
  have hP : va_P (dC, dI) vwCl (WC cI cF h0 qn2 a jcn2 jsn2 jvn2 kn2 (capOf (nn (a 0 4)))) H := hP
  have hD : va_D A (WC cI cF h0 qn2 a jcn2 jsn2 jvn2 kn2 (capOf (nn (a 0 4)))) := hD
  have hFc := y_free hD hS hA
  have hPc := hP
  have hDc := hD
  refine va_calli (va_runV (As := []) (rest := [.int ((a 0 6) + (a 0 7))]) ⟨hx, hb, hml, hown, hts⟩ (c_X4_taxes l dC dI cI cF h0 qn2 H.size a jcn2 jsn2 jvn2 kn2 hCn2 hB) (cwV 0 hts gL_isKept_X4_taxes rfl rfl rfl (by decide +kernel) ⟨Nat.le_of_ble_eq_true rfl, Nat.le_of_ble_eq_true rfl⟩) ⟨pcW_blind, va_recv hK hPc (ci := 4) (q0 := 0) rfl rfl, fun U hU hW => pcW_pre hPc hDc hK hU hW⟩ rfl rfl hl.1 rfl (lv_room (Nat.le_of_ble_eq_true rfl)) dL_isKept_10 ⟨(by show 0 + 0 + 0 + 0 ≤ 1700; omega), (by show 0 + 0 + 0 + 0 ≤ 10200; omega)⟩) hS (fun q _ h => hFc q h) hFc (fun r u t H1 locs ht hvm hw hB1 hz1 hk1 hS => ?_)
  obtain ⟨qn3, jcn3, jsn3, jvn3, kn3, hCn3, hPy, hKy, hDy⟩ := hB1
  rw [ht] at hPy
  have hP : va_P (dC, dI) vwCl (WC cI cF h0 qn3 a jcn3 jsn3 jvn3 kn3 (capOf (nn (a 0 4)))) _ := hPy
  have hD : va_D A (WC cI cF h0 qn3 a jcn3 jsn3 jvn3 kn3 (capOf (nn (a 0 4)))) := hDy.weaken (fun kk qq _ h => hFc qq.1 h)
  generalize H1 = H at hP hS ⊢
  have hCn3 : okC a jcn3 jsn3 jvn3 kn3 := hCn3
  refine y_topi (y := a 0 8) hw ?_
  refine lv_iadd hx hb dL_isKept_13 ?_
  refine y_topi (y := ksum a 0) rfl ?_
  refine lv_istore_n (lv' := [(1, .int (ksum a 0)), (0, .ref h0)]) hx hb dL_isKept_14 rfl hl (by decide) rfl (fun ls hl => ?_)
  refine lv_iconst (v := 0) hx hb dL_isKept_15 (by decide) ?_
  refine lv_istore_n (lv' := [(2, .int 0), (1, .int (ksum a 0)), (0, .ref h0)]) hx hb dL_isKept_16 rfl hl (by decide) rfl (fun ls hl => ?_)
  refine lv_aload_n hx hb dL_isKept_17 rfl (lv_at hl 2 rfl) ?_
  have hP : va_P (dC, dI) vwCl (WC cI cF h0 qn3 a jcn3 jsn3 jvn3 kn3 (capOf (nn (a 0 4)))) H := hP
  have hD : va_D A (WC cI cF h0 qn3 a jcn3 jsn3 jvn3 kn3 (capOf (nn (a 0 4)))) := hD
  have hFc := y_free hD hS hA
  have hPc := hP
  have hDc := hD
  refine va_calli (va_runV (As := []) (rest := []) ⟨hx, hb, hml, hown, hts⟩ (c_X4_fees l dC dI cI cF h0 qn3 H.size a jcn3 jsn3 jvn3 kn3 hCn3 hB) (cwV 0 hts gL_isKept_X4_fees rfl rfl rfl (by decide +kernel) ⟨Nat.le_of_ble_eq_true rfl, Nat.le_of_ble_eq_true rfl⟩) ⟨pcW_blind, va_recv hK hPc (ci := 4) (q0 := 0) rfl rfl, fun U hU hW => pcW_pre hPc hDc hK hU hW⟩ rfl rfl hl.1 rfl (lv_room (Nat.le_of_ble_eq_true rfl)) dL_isKept_18 ⟨(by show 0 + 0 + 0 + 0 + 0 ≤ 1700; omega), (by show 0 + 0 + 0 + 0 + 0 ≤ 10200; omega)⟩) hS (fun q _ h => hFc q h) hFc (fun r u t H1 locs ht hvm hw hB1 hz1 hk1 hS => ?_)
  obtain ⟨qn4, jcn4, jsn4, jvn4, kn4, hCn4, hPy, hKy, hDy⟩ := hB1
  rw [ht] at hPy
  have hP : va_P (dC, dI) vwCl (WC cI cF h0 qn4 a jcn4 jsn4 jvn4 kn4 (capOf (nn (a 0 4)))) _ := hPy
  have hD : va_D A (WC cI cF h0 qn4 a jcn4 jsn4 jvn4 kn4 (capOf (nn (a 0 4)))) := hDy.weaken (fun kk qq _ h => hFc qq.1 h)
  generalize H1 = H at hP hS ⊢
  have hCn4 : okC a jcn4 jsn4 jvn4 kn4 := hCn4
  refine y_topi (y := a 0 7) hw ?_
  refine lv_if_lt (tgt := 53) hx hb dL_isKept_21 (by decide) (fun c_5 => ?_) (fun c_5 => ?_)
  · exact absurd g1 (Int32.not_le.mpr c_5)
  · refine lv_aload_n hx hb dL_isKept_24 rfl (lv_at hl 2 rfl) ?_
    have hP : va_P (dC, dI) vwCl (WC cI cF h0 qn4 a jcn4 jsn4 jvn4 kn4 (capOf (nn (a 0 4)))) H := hP
    have hD : va_D A (WC cI cF h0 qn4 a jcn4 jsn4 jvn4 kn4 (capOf (nn (a 0 4)))) := hD
    have hFc := y_free hD hS hA
    have hPc := hP
    have hDc := hD
    refine va_calli (va_runV (As := []) (rest := []) ⟨hx, hb, hml, hown, hts⟩ (c_X4_taxes l dC dI cI cF h0 qn4 H.size a jcn4 jsn4 jvn4 kn4 hCn4 hB) (cwV 0 hts gL_isKept_X4_taxes rfl rfl rfl (by decide +kernel) ⟨Nat.le_of_ble_eq_true rfl, Nat.le_of_ble_eq_true rfl⟩) ⟨pcW_blind, va_recv hK hPc (ci := 4) (q0 := 0) rfl rfl, fun U hU hW => pcW_pre hPc hDc hK hU hW⟩ rfl rfl hl.1 rfl (lv_room (Nat.le_of_ble_eq_true rfl)) dL_isKept_25 ⟨(by show 0 + 0 + 0 + 0 + 0 + 0 ≤ 1700; omega), (by show 0 + 0 + 0 + 0 + 0 + 0 ≤ 10200; omega)⟩) hS (fun q _ h => hFc q h) hFc (fun r u t H1 locs ht hvm hw hB1 hz1 hk1 hS => ?_)
    obtain ⟨qn6, jcn6, jsn6, jvn6, kn6, hCn6, hPy, hKy, hDy⟩ := hB1
    rw [ht] at hPy
    have hP : va_P (dC, dI) vwCl (WC cI cF h0 qn6 a jcn6 jsn6 jvn6 kn6 (capOf (nn (a 0 4)))) _ := hPy
    have hD : va_D A (WC cI cF h0 qn6 a jcn6 jsn6 jvn6 kn6 (capOf (nn (a 0 4)))) := hDy.weaken (fun kk qq _ h => hFc qq.1 h)
    generalize H1 = H at hP hS ⊢
    have hCn6 : okC a jcn6 jsn6 jvn6 kn6 := hCn6
    refine y_topi (y := a 0 8) hw ?_
    refine lv_if_lt (tgt := 53) hx hb dL_isKept_28 (by decide) (fun c_7 => ?_) (fun c_7 => ?_)
    · exact absurd g2 (Int32.not_le.mpr c_7)
    · refine lv_aload_n hx hb dL_isKept_31 rfl (lv_at hl 2 rfl) ?_
      have hP : va_P (dC, dI) vwCl (WC cI cF h0 qn6 a jcn6 jsn6 jvn6 kn6 (capOf (nn (a 0 4)))) H := hP
      have hD : va_D A (WC cI cF h0 qn6 a jcn6 jsn6 jvn6 kn6 (capOf (nn (a 0 4)))) := hD
      have hFc := y_free hD hS hA
      have hPc := hP
      have hDc := hD
      refine va_calli (va_runV (As := []) (rest := []) ⟨hx, hb, hml, hown, hts⟩ (c_X4_refunded l dC dI cI cF h0 qn6 H.size a jcn6 jsn6 jvn6 kn6 hCn6 hB) (cwV 0 hts gL_isKept_X4_refunded rfl rfl rfl (by decide +kernel) ⟨Nat.le_of_ble_eq_true rfl, Nat.le_of_ble_eq_true rfl⟩) ⟨pcW_blind, va_recv hK hPc (ci := 4) (q0 := 0) rfl rfl, fun U hU hW => pcW_pre hPc hDc hK hU hW⟩ rfl rfl hl.1 rfl (lv_room (Nat.le_of_ble_eq_true rfl)) dL_isKept_32 ⟨(by show 0 + 0 + 0 + 0 + 0 + 0 + 0 ≤ 1700; omega), (by show 0 + 0 + 0 + 0 + 0 + 0 + 0 ≤ 10200; omega)⟩) hS (fun q _ h => hFc q h) hFc (fun r u t H1 locs ht hvm hw hB1 hz1 hk1 hS => ?_)
      obtain ⟨qn8, jcn8, jsn8, jvn8, kn8, hCn8, hPy, hKy, hDy⟩ := hB1
      rw [ht] at hPy
      have hP : va_P (dC, dI) vwCl (WC cI cF h0 qn8 a jcn8 jsn8 jvn8 kn8 (capOf (nn (a 0 4)))) _ := hPy
      have hD : va_D A (WC cI cF h0 qn8 a jcn8 jsn8 jvn8 kn8 (capOf (nn (a 0 4)))) := hDy.weaken (fun kk qq _ h => hFc qq.1 h)
      generalize H1 = H at hP hS ⊢
      have hCn8 : okC a jcn8 jsn8 jvn8 kn8 := hCn8
      refine y_topi (y := a 0 6) hw ?_
      refine lv_if_lt (tgt := 53) hx hb dL_isKept_35 (by decide) (fun c_9 => ?_) (fun c_9 => ?_)
      · exact absurd g3 (Int32.not_le.mpr c_9)
      · refine lv_aload_n hx hb dL_isKept_38 rfl (lv_at hl 2 rfl) ?_
        have hP : va_P (dC, dI) vwCl (WC cI cF h0 qn8 a jcn8 jsn8 jvn8 kn8 (capOf (nn (a 0 4)))) H := hP
        have hD : va_D A (WC cI cF h0 qn8 a jcn8 jsn8 jvn8 kn8 (capOf (nn (a 0 4)))) := hD
        have hFc := y_free hD hS hA
        have hPc := hP
        have hDc := hD
        refine va_calli (va_runV (As := []) (rest := []) ⟨hx, hb, hml, hown, hts⟩ (c_X4_refunded l dC dI cI cF h0 qn8 H.size a jcn8 jsn8 jvn8 kn8 hCn8 hB) (cwV 0 hts gL_isKept_X4_refunded rfl rfl rfl (by decide +kernel) ⟨Nat.le_of_ble_eq_true rfl, Nat.le_of_ble_eq_true rfl⟩) ⟨pcW_blind, va_recv hK hPc (ci := 4) (q0 := 0) rfl rfl, fun U hU hW => pcW_pre hPc hDc hK hU hW⟩ rfl rfl hl.1 rfl (lv_room (Nat.le_of_ble_eq_true rfl)) dL_isKept_39 ⟨(by show 0 + 0 + 0 + 0 + 0 + 0 + 0 + 0 ≤ 1700; omega), (by show 0 + 0 + 0 + 0 + 0 + 0 + 0 + 0 ≤ 10200; omega)⟩) hS (fun q _ h => hFc q h) hFc (fun r u t H1 locs ht hvm hw hB1 hz1 hk1 hS => ?_)
        obtain ⟨qn10, jcn10, jsn10, jvn10, kn10, hCn10, hPy, hKy, hDy⟩ := hB1
        rw [ht] at hPy
        have hP : va_P (dC, dI) vwCl (WC cI cF h0 qn10 a jcn10 jsn10 jvn10 kn10 (capOf (nn (a 0 4)))) _ := hPy
        have hD : va_D A (WC cI cF h0 qn10 a jcn10 jsn10 jvn10 kn10 (capOf (nn (a 0 4)))) := hDy.weaken (fun kk qq _ h => hFc qq.1 h)
        generalize H1 = H at hP hS ⊢
        have hCn10 : okC a jcn10 jsn10 jvn10 kn10 := hCn10
        refine y_topi (y := a 0 6) hw ?_
        refine lv_aload_n hx hb dL_isKept_42 rfl (lv_at hl 2 rfl) ?_
        have hP : va_P (dC, dI) vwCl (WC cI cF h0 qn10 a jcn10 jsn10 jvn10 kn10 (capOf (nn (a 0 4)))) H := hP
        have hD : va_D A (WC cI cF h0 qn10 a jcn10 jsn10 jvn10 kn10 (capOf (nn (a 0 4)))) := hD
        have hFc := y_free hD hS hA
        have hPc := hP
        have hDc := hD
        refine va_calli (va_runV (As := []) (rest := [.int (a 0 6)]) ⟨hx, hb, hml, hown, hts⟩ (c_X4_received l dC dI cI cF h0 qn10 H.size a jcn10 jsn10 jvn10 kn10 hCn10 hB) (cwV 0 hts gL_isKept_X4_received rfl rfl rfl (by decide +kernel) ⟨Nat.le_of_ble_eq_true rfl, Nat.le_of_ble_eq_true rfl⟩) ⟨pcW_blind, va_recv hK hPc (ci := 4) (q0 := 0) rfl rfl, fun U hU hW => pcW_pre hPc hDc hK hU hW⟩ rfl rfl hl.1 rfl (lv_room (Nat.le_of_ble_eq_true rfl)) dL_isKept_43 ⟨(by show 0 + 0 + 0 + 0 + 0 + 0 + 0 + 0 + 0 ≤ 1700; omega), (by show 0 + 0 + 0 + 0 + 0 + 0 + 0 + 0 + 0 ≤ 10200; omega)⟩) hS (fun q _ h => hFc q h) hFc (fun r u t H1 locs ht hvm hw hB1 hz1 hk1 hS => ?_)
        obtain ⟨qn11, jcn11, jsn11, jvn11, kn11, hCn11, hPy, hKy, hDy⟩ := hB1
        rw [ht] at hPy
        have hP : va_P (dC, dI) vwCl (WC cI cF h0 qn11 a jcn11 jsn11 jvn11 kn11 (capOf (nn (a 0 4)))) _ := hPy
        have hD : va_D A (WC cI cF h0 qn11 a jcn11 jsn11 jvn11 kn11 (capOf (nn (a 0 4)))) := hDy.weaken (fun kk qq _ h => hFc qq.1 h)
        generalize H1 = H at hP hS ⊢
        have hCn11 : okC a jcn11 jsn11 jvn11 kn11 := hCn11
        refine y_topi (y := a 0 5) hw ?_
        refine lv_icmp_gt (tgt := 53) hx hb dL_isKept_46 (by decide) (fun c_12 => ?_) (fun c_12 => ?_)
        · exact absurd g4 (Int32.not_le.mpr c_12)
        · refine lv_iconst (v := 1) hx hb dL_isKept_49 (by decide) ?_
          refine lv_goto (tgt := 54) hx hb dL_isKept_50 (by decide) ?_
          refine lv_istore_n (lv' := [(3, .int 1), (2, .int 0), (1, .int (ksum a 0)), (0, .ref h0)]) hx hb dL_isKept_54 rfl hl (by decide) rfl (fun ls hl => ?_)
          refine lv_iconst (v := 0) hx hb dL_isKept_55 (by decide) ?_
          refine lv_istore (lv' := [(4, .int 0), (3, .int 1), (2, .int 0), (1, .int (ksum a 0)), (0, .ref h0)]) hx hb dL_isKept_56 hl (by decide) rfl (fun ls hl => ?_)
          have hl : lv_has ls 5 [(4, .int (nI 0)), (3, .int 1), (2, .int (kpai a 0)), (1, .int (ksum a 0)), (0, .ref h0)] := hl
          have hP : va_P (dC, dI) vwCl (WC cI cF h0 qn11 a jcn11 jsn11 jvn11 kn11 (capOf (nn (a 0 4)))) H := hP
          have hD : va_D A (WC cI cF h0 qn11 a jcn11 jsn11 jvn11 kn11 (capOf (nn (a 0 4)))) := hD
          refine y_cutG 157 (fun H locs ls cells slots => ∃ (q : Nat → Nat) (jc js jv : Nat → Int32) (k : Nat), cells ≤ 80 ∧ slots ≤ 480 ∧ okC a jc js jv k ∧ va_P (dC, dI) vwCl (WC cI cF h0 q a jc js jv k (capOf (nn (a 0 4)))) H ∧ va_D A (WC cI cF h0 q a jc js jv k (capOf (nn (a 0 4)))) ∧ va_S A s.heap H locs ∧ lv_has ls 5 [(3, .int 1), (2, .int (kpai a (nn (a 0 0)))), (1, .int (ksum a (nn (a 0 0)))), (0, .ref h0)]) (fun H locs ls cells slots hI9 => ?_) (fun K157 => ?_)
          · obtain ⟨q, jc, js, jv, k, hf0, hf1, hCq, hP, hD, hS, hl⟩ := hI9
            refine lv_iconst (v := 0) hx hb dL_isKept_157 (by decide) ?_
            refine lv_istore (lv' := [(4, .int 0), (3, .int 1), (2, .int (kpai a (nn (a 0 0)))), (1, .int (ksum a (nn (a 0 0)))), (0, .ref h0)]) hx hb dL_isKept_158 hl (by decide) rfl (fun ls hl => ?_)
            have hl : lv_has ls 5 [(4, .int (nI 0)), (3, .int 1), (2, .int (kpay a (kpai a (nn (a 0 0))) 0)), (1, .int (ksum a (nn (a 0 0)))), (0, .ref h0)] := hl
            have hP : va_P (dC, dI) vwCl (WC cI cF h0 q a jc js jv k (capOf (nn (a 0 4)))) H := hP
            have hD : va_D A (WC cI cF h0 q a jc js jv k (capOf (nn (a 0 4)))) := hD
            refine y_loopC (fun k9 H locs ls cells slots => ∃ (i : Nat) (q : Nat → Nat) (jc js jv : Nat → Int32) (k : Nat), k9 + i = nn (a 0 4) ∧ cells ≤ 80 + 4 * i ∧ slots ≤ 480 + 24 * i ∧ okC a jc js jv k ∧ va_P (dC, dI) vwCl (WC cI cF h0 q a jc js jv k (capOf (nn (a 0 4)))) H ∧ va_D A (WC cI cF h0 q a jc js jv k (capOf (nn (a 0 4)))) ∧ va_S A s.heap H locs ∧ lv_has ls 5 [(4, .int (nI i)), (3, .int 1), (2, .int (kpay a (kpai a (nn (a 0 0))) i)), (1, .int (ksum a (nn (a 0 0)))), (0, .ref h0)]) (nn (a 0 4)) ⟨0, q, jc, js, jv, k, by omega, by omega, by omega, hCq, hP, hD, hS, lv_sub hl [0, 1, 2, 3, 4] rfl⟩ (fun k9 H locs ls cells slots hI9 ih => ?_)
            obtain ⟨i, q, jc, js, jv, k, hf0, hf1, hf2, hCq, hP, hD, hS, hl⟩ := hI9
            refine lv_iload hx hb dL_isKept_160 (lv_at hl 0 rfl) ?_
            refine lv_aload_n hx hb dL_isKept_162 rfl (lv_at hl 4 rfl) ?_
            have hP : va_P (dC, dI) vwCl (WC cI cF h0 q a jc js jv k (capOf (nn (a 0 4)))) H := hP
            have hD : va_D A (WC cI cF h0 q a jc js jv k (capOf (nn (a 0 4)))) := hD
            have hFc := y_free hD hS hA
            have hPc := hP
            have hDc := hD
            refine va_calli (va_runV (As := []) (rest := [.int (nI i)]) ⟨hx, hb, hml, hown, hts⟩ (c_X4_payouts l dC dI cI cF h0 q H.size a jc js jv k hCq hB) (cwV 0 hts gL_isKept_X4_payouts rfl rfl rfl (by decide +kernel) ⟨Nat.le_of_ble_eq_true rfl, Nat.le_of_ble_eq_true rfl⟩) ⟨pcW_blind, va_recv hK hPc (ci := 4) (q0 := 0) rfl rfl, fun U hU hW => pcW_pre hPc hDc hK hU hW⟩ rfl rfl hl.1 rfl (lv_room (Nat.le_of_ble_eq_true rfl)) dL_isKept_163 ⟨(by show cells + 0 ≤ 1700; omega), (by show slots + 0 ≤ 10200; omega)⟩) hS (fun q _ h => hFc q h) hFc (fun r u t H1 locs ht hvm hw hB1 hz1 hk1 hS => ?_)
            obtain ⟨qn13, jcn13, jsn13, jvn13, kn13, hCn13, hPy, hKy, hDy⟩ := hB1
            rw [ht] at hPy
            have hP : va_P (dC, dI) vwCl (WC cI cF h0 qn13 a jcn13 jsn13 jvn13 kn13 (capOf (nn (a 0 4)))) _ := hPy
            have hD : va_D A (WC cI cF h0 qn13 a jcn13 jsn13 jvn13 kn13 (capOf (nn (a 0 4)))) := hDy.weaken (fun kk qq _ h => hFc qq.1 h)
            generalize H1 = H at hP hS ⊢
            have hCn13 : okC a jcn13 jsn13 jvn13 kn13 := hCn13
            refine y_topi (y := a 0 4) hw ?_
            refine y_topi (y := nI (nn (a 0 4))) (a04_nI hB) ?_
            refine lv_icmp_ge (tgt := 218) hx hb dL_isKept_166 (by decide) (fun c_14 => ?_) (fun c_14 => ?_)
            · have eP : i = nn (a 0 4) := by
                have h9 := (nI_leI (by omega) (by omega)).mp c_14
                omega
              subst eP
              refine lv_iload_n hx hb dL_isKept_218 rfl (lv_at hl 1 rfl) ?_
              refine lv_if_eq (tgt := 238) hx hb dL_isKept_219 (by decide) (fun c_15 => ?_) (fun c_15 => ?_)
              · exact absurd c_15 (by decide)
              · refine lv_iload_n hx hb dL_isKept_222 rfl (lv_at hl 3 rfl) ?_
                refine lv_aload_n hx hb dL_isKept_223 rfl (lv_at hl 4 rfl) ?_
                have hP : va_P (dC, dI) vwCl (WC cI cF h0 qn13 a jcn13 jsn13 jvn13 kn13 (capOf (nn (a 0 4)))) H := hP
                have hD : va_D A (WC cI cF h0 qn13 a jcn13 jsn13 jvn13 kn13 (capOf (nn (a 0 4)))) := hD
                have hFc := y_free hD hS hA
                have hPc := hP
                have hDc := hD
                refine va_calli (va_runV (As := []) (rest := [.int (ksum a (nn (a 0 0)))]) ⟨hx, hb, hml, hown, hts⟩ (c_X4_received l dC dI cI cF h0 qn13 H.size a jcn13 jsn13 jvn13 kn13 hCn13 hB) (cwV 0 hts gL_isKept_X4_received rfl rfl rfl (by decide +kernel) ⟨Nat.le_of_ble_eq_true rfl, Nat.le_of_ble_eq_true rfl⟩) ⟨pcW_blind, va_recv hK hPc (ci := 4) (q0 := 0) rfl rfl, fun U hU hW => pcW_pre hPc hDc hK hU hW⟩ rfl rfl hl.1 rfl (lv_room (Nat.le_of_ble_eq_true rfl)) dL_isKept_224 ⟨(by show cells + 0 + 0 ≤ 1700; omega), (by show slots + 0 + 0 ≤ 10200; omega)⟩) hS (fun q _ h => hFc q h) hFc (fun r u t H1 locs ht hvm hw hB1 hz1 hk1 hS => ?_)
                obtain ⟨qn16, jcn16, jsn16, jvn16, kn16, hCn16, hPy, hKy, hDy⟩ := hB1
                rw [ht] at hPy
                have hP : va_P (dC, dI) vwCl (WC cI cF h0 qn16 a jcn16 jsn16 jvn16 kn16 (capOf (nn (a 0 4)))) _ := hPy
                have hD : va_D A (WC cI cF h0 qn16 a jcn16 jsn16 jvn16 kn16 (capOf (nn (a 0 4)))) := hDy.weaken (fun kk qq _ h => hFc qq.1 h)
                generalize H1 = H at hP hS ⊢
                have hCn16 : okC a jcn16 jsn16 jvn16 kn16 := hCn16
                refine y_topi (y := a 0 5) hw ?_
                refine lv_icmp_ne (tgt := 238) hx hb dL_isKept_227 (by decide) (fun c_17 => ?_) (fun c_17 => ?_)
                · exact absurd gS c_17
                · refine lv_iload_n hx hb dL_isKept_230 rfl (lv_at hl 2 rfl) ?_
                  refine lv_if_gt (tgt := 238) hx hb dL_isKept_231 (by decide) (fun c_18 => ?_) (fun c_18 => ?_)
                  · exact absurd gP (Int32.not_le.mpr c_18)
                  · refine lv_iconst (v := 1) hx hb dL_isKept_234 (by decide) ?_
                    refine lv_goto (tgt := 239) hx hb dL_isKept_235 (by decide) ?_
                    have hP : va_P (dC, dI) vwCl (WC cI cF h0 qn16 a jcn16 jsn16 jvn16 kn16 (capOf (nn (a 0 4)))) H := hP
                    have hD : va_D A (WC cI cF h0 qn16 a jcn16 jsn16 jvn16 kn16 (capOf (nn (a 0 4)))) := hD
                    refine W.widen (k := 1700) (n := 10200) (by show cells + 0 + 0 ≤ 1700; omega) (by show slots + 0 + 0 ≤ 10200; omega) ?_
                    have hP9 := hP
                    have hD9 := hD
                    have hK9 := hK
                    exact W.zret (v := 1) (ty := .boolean) hx hb hr rfl (fun t ht hW => ⟨⟨1, (), rfl, rfl, atC_in hCn16 (atW_end hP9 hD9 hK9 ht hW)⟩, hS.F ht⟩) hS.2.2 dL_isKept_239
            · have hiP : i < nn (a 0 4) := by
                by_cases q : i < nn (a 0 4)
                · exact q
                · exact absurd ((nI_leI (by omega) (by omega)).mpr (Nat.not_lt.mp q)) c_14
              have hk0 := kPay_y hB hiP
              obtain ⟨p1, p2⟩ := gK i hiP
              refine lv_iload_n hx hb dL_isKept_169 rfl (lv_at hl 1 rfl) ?_
              refine lv_if_eq (tgt := 218) hx hb dL_isKept_170 (by decide) (fun c_19 => ?_) (fun c_19 => ?_)
              · exact absurd c_19 (by decide)
              · refine lv_iload_n hx hb dL_isKept_173 rfl (lv_at hl 2 rfl) ?_
                refine lv_aload_n hx hb dL_isKept_174 rfl (lv_at hl 4 rfl) ?_
                refine lv_iload hx hb dL_isKept_175 (lv_at hl 0 rfl) ?_
                have hP : va_P (dC, dI) vwCl (WC cI cF h0 qn13 a jcn13 jsn13 jvn13 kn13 (capOf (nn (a 0 4)))) H := hP
                have hD : va_D A (WC cI cF h0 qn13 a jcn13 jsn13 jvn13 kn13 (capOf (nn (a 0 4)))) := hD
                have hFc := y_free hD hS hA
                have hPc := hP
                have hDc := hD
                refine vx_calli (vx_runV (As := [.int (nI i)]) (rest := [.int (kpay a (kpai a (nn (a 0 0))) i)]) ⟨hx, hb, hml, hown, hts⟩ (c_X4_payout l dC dI cI cF h0 qn13 H.size a jcn13 jsn13 jvn13 kn13 hst hCn13 hB (nI i)) (cwV 1 hts gL_isKept_X4_payout rfl rfl rfl (by decide +kernel) ⟨Nat.le_of_ble_eq_true rfl, Nat.le_of_ble_eq_true rfl⟩) ⟨pcV_blind, va_recv hK hPc (ci := 4) (q0 := 0) rfl rfl, fun U hU hW => pcV_pre hPc hDc hK hV hS hFc hU hW⟩ rfl rfl hl.1 rfl (lv_room (Nat.le_of_ble_eq_true rfl)) dL_isKept_177 ⟨(by show cells + 0 + 1 ≤ 1700; omega), (by show slots + 0 + 6 ≤ 10200; omega)⟩) hS (fun q _ h => hFc q h) hFc (fun q _ h => hFc q h) (fun E ce q9 u t H1 locs ht hvm hw hBx hz1 hk1 hS hce hcv hcl => absurd hk0 hw) (fun r u t H1 locs ht hvm hw hB1 hz1 hk1 hS => ?_)
                obtain ⟨qn20, jcn20, jsn20, jvn20, kn20, hCn20, hPy, hKy, hDy⟩ := hB1
                rw [ht] at hPy
                have hP : va_P (dC, dI) vwCl (WC cI cF h0 qn20 a jcn20 jsn20 jvn20 kn20 (capOf (nn (a 0 4)))) _ := hPy
                have hD : va_D A (WC cI cF h0 qn20 a jcn20 jsn20 jvn20 kn20 (capOf (nn (a 0 4)))) := hDy.weaken (fun kk qq _ h => hFc qq.1 h)
                generalize H1 = H at hP hS ⊢
                have hCn20 : okC a jcn20 jsn20 jvn20 kn20 := hCn20
                refine y_topi (y := a 19 i) (by rw [hw.2, nnI (by omega)]) ?_
                refine lv_isub hx hb dL_isKept_180 ?_
                refine y_topi (y := kpay a (kpai a (nn (a 0 0))) (i + 1)) rfl ?_
                refine lv_istore_n (lv' := [(2, .int (kpay a (kpai a (nn (a 0 0))) (i + 1))), (4, .int (nI i)), (3, .int 1), (1, .int (ksum a (nn (a 0 0)))), (0, .ref h0)]) hx hb dL_isKept_181 rfl hl (by decide) rfl (fun ls hl => ?_)
                refine lv_aload_n hx hb dL_isKept_182 rfl (lv_at hl 4 rfl) ?_
                refine lv_iload hx hb dL_isKept_183 (lv_at hl 1 rfl) ?_
                have hP : va_P (dC, dI) vwCl (WC cI cF h0 qn20 a jcn20 jsn20 jvn20 kn20 (capOf (nn (a 0 4)))) H := hP
                have hD : va_D A (WC cI cF h0 qn20 a jcn20 jsn20 jvn20 kn20 (capOf (nn (a 0 4)))) := hD
                have hFc := y_free hD hS hA
                have hPc := hP
                have hDc := hD
                refine vx_calli (vx_runV (As := [.int (nI i)]) (rest := []) ⟨hx, hb, hml, hown, hts⟩ (c_X4_payout l dC dI cI cF h0 qn20 H.size a jcn20 jsn20 jvn20 kn20 hst hCn20 hB (nI i)) (cwV 1 hts gL_isKept_X4_payout rfl rfl rfl (by decide +kernel) ⟨Nat.le_of_ble_eq_true rfl, Nat.le_of_ble_eq_true rfl⟩) ⟨pcV_blind, va_recv hK hPc (ci := 4) (q0 := 0) rfl rfl, fun U hU hW => pcV_pre hPc hDc hK hV hS hFc hU hW⟩ rfl rfl hl.1 rfl (lv_room (Nat.le_of_ble_eq_true rfl)) dL_isKept_185 ⟨(by show cells + 0 + 1 + 1 ≤ 1700; omega), (by show slots + 0 + 6 + 6 ≤ 10200; omega)⟩) hS (fun q _ h => hFc q h) hFc (fun q _ h => hFc q h) (fun E ce q9 u t H1 locs ht hvm hw hBx hz1 hk1 hS hce hcv hcl => absurd hk0 hw) (fun r u t H1 locs ht hvm hw hB1 hz1 hk1 hS => ?_)
                obtain ⟨qn21, jcn21, jsn21, jvn21, kn21, hCn21, hPy, hKy, hDy⟩ := hB1
                rw [ht] at hPy
                have hP : va_P (dC, dI) vwCl (WC cI cF h0 qn21 a jcn21 jsn21 jvn21 kn21 (capOf (nn (a 0 4)))) _ := hPy
                have hD : va_D A (WC cI cF h0 qn21 a jcn21 jsn21 jvn21 kn21 (capOf (nn (a 0 4)))) := hDy.weaken (fun kk qq _ h => hFc qq.1 h)
                generalize H1 = H at hP hS ⊢
                have hCn21 : okC a jcn21 jsn21 jvn21 kn21 := hCn21
                refine y_topi (y := a 19 i) (by rw [hw.2, nnI (by omega)]) ?_
                refine lv_if_le (tgt := 210) hx hb dL_isKept_188 (by decide) (fun c_22 => ?_) (fun c_22 => ?_)
                · exact absurd p1 (Int32.not_lt.mpr c_22)
                · refine lv_aload_n hx hb dL_isKept_191 rfl (lv_at hl 4 rfl) ?_
                  refine lv_aload_n hx hb dL_isKept_192 rfl (lv_at hl 4 rfl) ?_
                  refine lv_iload hx hb dL_isKept_193 (lv_at hl 1 rfl) ?_
                  have hP : va_P (dC, dI) vwCl (WC cI cF h0 qn21 a jcn21 jsn21 jvn21 kn21 (capOf (nn (a 0 4)))) H := hP
                  have hD : va_D A (WC cI cF h0 qn21 a jcn21 jsn21 jvn21 kn21 (capOf (nn (a 0 4)))) := hD
                  have hFc := y_free hD hS hA
                  have hPc := hP
                  have hDc := hD
                  refine vx_calli (vx_runV (As := [.int (nI i)]) (rest := [.ref h0]) ⟨hx, hb, hml, hown, hts⟩ (c_X4_sellerOf l dC dI cI cF h0 qn21 H.size a jcn21 jsn21 jvn21 kn21 hst hCn21 hB (nI i)) (cwV 1 hts gL_isKept_X4_sellerOf rfl rfl rfl (by decide +kernel) ⟨Nat.le_of_ble_eq_true rfl, Nat.le_of_ble_eq_true rfl⟩) ⟨pcV_blind, va_recv hK hPc (ci := 4) (q0 := 0) rfl rfl, fun U hU hW => pcV_pre hPc hDc hK hV hS hFc hU hW⟩ rfl rfl hl.1 rfl (lv_room (Nat.le_of_ble_eq_true rfl)) dL_isKept_195 ⟨(by show cells + 0 + 1 + 1 + 1 ≤ 1700; omega), (by show slots + 0 + 6 + 6 + 6 ≤ 10200; omega)⟩) hS (fun q _ h => hFc q h) hFc (fun q _ h => hFc q h) (fun E ce q9 u t H1 locs ht hvm hw hBx hz1 hk1 hS hce hcv hcl => absurd hk0 hw) (fun r u t H1 locs ht hvm hw hB1 hz1 hk1 hS => ?_)
                  obtain ⟨qn23, jcn23, jsn23, jvn23, kn23, hCn23, hPy, hKy, hDy⟩ := hB1
                  rw [ht] at hPy
                  have hP : va_P (dC, dI) vwCl (WC cI cF h0 qn23 a jcn23 jsn23 jvn23 kn23 (capOf (nn (a 0 4)))) _ := hPy
                  have hD : va_D A (WC cI cF h0 qn23 a jcn23 jsn23 jvn23 kn23 (capOf (nn (a 0 4)))) := hDy.weaken (fun kk qq _ h => hFc qq.1 h)
                  generalize H1 = H at hP hS ⊢
                  have hCn23 : okC a jcn23 jsn23 jvn23 kn23 := hCn23
                  refine y_topi (y := a 20 i) (by rw [hw.2, nnI (by omega)]) ?_
                  have e20 : a 20 i = nI (nn (a 20 i)) := (hB 20 i 7 rfl).1
                  have hP : va_P (dC, dI) vwCl (WC cI cF h0 qn23 a jcn23 jsn23 jvn23 kn23 (capOf (nn (a 0 4)))) H := hP
                  have hD : va_D A (WC cI cF h0 qn23 a jcn23 jsn23 jvn23 kn23 (capOf (nn (a 0 4)))) := hD
                  have hFc := y_free hD hS hA
                  have hPc := hP
                  have hDc := hD
                  refine va_calli (vx_runSW (As := [.ref h0, .int (a 20 i)]) (rest := []) ⟨hx, hb, hml, hown, hts⟩ (c_L_balance l dC dI cI cF h0 qn23 H.size a jcn23 jsn23 jvn23 kn23 hst hCn23 hB (a 20 i)) (vx_cwSW 2 hts gL_isKept_L_balance rfl rfl rfl (by decide +kernel) ⟨Nat.le_of_ble_eq_true rfl, Nat.le_of_ble_eq_true rfl⟩) ⟨pcH_blind, fun U hU hW => pcH_pre hPc hDc hK hV hN hS hFc hU hW⟩ rfl rfl hl.1 rfl (lv_room (Nat.le_of_ble_eq_true rfl)) dL_isKept_198 ⟨(by show cells + 0 + 1 + 1 + 1 + 1 ≤ 1700; omega), (by show slots + 0 + 6 + 6 + 6 + 6 ≤ 10200; omega)⟩) hS (fun q _ h => hFc q h) hFc (fun r u t H1 locs ht hvm hw hB1 hz1 hk1 hS => ?_)
                  obtain ⟨qn24, jcn24, jsn24, jvn24, kn24, hCn24, hPy, hKy, hDy⟩ := hB1
                  rw [ht] at hPy
                  have hP : va_P (dC, dI) vwCl (WC cI cF h0 qn24 a jcn24 jsn24 jvn24 kn24 (capOf (nn (a 0 4)))) _ := hPy
                  have hD : va_D A (WC cI cF h0 qn24 a jcn24 jsn24 jvn24 kn24 (capOf (nn (a 0 4)))) := hDy.weaken (fun kk qq _ h => hFc qq.1 h)
                  generalize H1 = H at hP hS ⊢
                  have hCn24 : okC a jcn24 jsn24 jvn24 kn24 := hCn24
                  refine y_topi (y := a 7 (nn (a 20 i))) (by rw [hw, e20, bA_in hB p2, ← e20]) ?_
                  refine lv_ldc hx hb hown (hts (.constant RL 45 (-2000000001)) (List.mem_of_getElem? (i := 1) rfl)) dL_isKept_201 ?_
                  refine lv_icmp_eq (tgt := 210) hx hb dL_isKept_203 (by decide) (fun c_25 => ?_) (fun c_25 => ?_)
                  · exact absurd c_25 (gB _ (by omega))
                  · refine lv_iconst (v := 1) hx hb dL_isKept_206 (by decide) ?_
                    refine lv_goto (tgt := 211) hx hb dL_isKept_207 (by decide) ?_
                    refine lv_istore_n (lv' := [(3, .int 1), (2, .int (kpay a (kpai a (nn (a 0 0))) (i + 1))), (4, .int (nI i)), (1, .int (ksum a (nn (a 0 0)))), (0, .ref h0)]) hx hb dL_isKept_211 rfl hl (by decide) rfl (fun ls hl => ?_)
                    refine lv_iinc (v := nI (i + 1)) (lv' := [(4, .int (nI (i + 1))), (3, .int 1), (2, .int (kpay a (kpai a (nn (a 0 0))) (i + 1))), (1, .int (ksum a (nn (a 0 0)))), (0, .ref h0)]) hx hb dL_isKept_212 hl (k := 2) rfl (nI_1 i) (by decide) rfl (fun ls hl => ?_)
                    refine lv_goto (tgt := 160) hx hb dL_isKept_215 (by decide) ?_
                    have hP : va_P (dC, dI) vwCl (WC cI cF h0 qn24 a jcn24 jsn24 jvn24 kn24 (capOf (nn (a 0 4)))) H := hP
                    have hD : va_D A (WC cI cF h0 qn24 a jcn24 jsn24 jvn24 kn24 (capOf (nn (a 0 4)))) := hD
                    exact ih (k9 - 1) H locs ls _ _ (by omega) ⟨i + 1, qn24, jcn24, jsn24, jvn24, kn24, by omega, by omega, by omega, hCn24, hP, hD, hS, lv_sub hl [0, 1, 2, 3, 4] rfl⟩
          · have hP : va_P (dC, dI) vwCl (WC cI cF h0 qn11 a jcn11 jsn11 jvn11 kn11 (capOf (nn (a 0 4)))) H := hP
            have hD : va_D A (WC cI cF h0 qn11 a jcn11 jsn11 jvn11 kn11 (capOf (nn (a 0 4)))) := hD
            refine y_loopC (fun k9 H locs ls cells slots => ∃ (z : Nat) (q : Nat → Nat) (jc js jv : Nat → Int32) (k : Nat), k9 + z = nn (a 0 0) ∧ cells ≤ 10 * z ∧ slots ≤ 60 * z ∧ okC a jc js jv k ∧ va_P (dC, dI) vwCl (WC cI cF h0 q a jc js jv k (capOf (nn (a 0 4)))) H ∧ va_D A (WC cI cF h0 q a jc js jv k (capOf (nn (a 0 4)))) ∧ va_S A s.heap H locs ∧ lv_has ls 5 [(4, .int (nI z)), (3, .int 1), (2, .int (kpai a z)), (1, .int (ksum a z)), (0, .ref h0)]) (nn (a 0 0)) ⟨0, qn11, jcn11, jsn11, jvn11, kn11, by omega, by omega, by omega, hCn11, hP, hD, hS, lv_sub hl [0, 1, 2, 3, 4] rfl⟩ (fun k9 H locs ls cells slots hI9 ih => ?_)
            obtain ⟨z, q, jc, js, jv, k, hf0, hf1, hf2, hCq, hP, hD, hS, hl⟩ := hI9
            refine lv_iload hx hb dL_isKept_58 (lv_at hl 0 rfl) ?_
            refine lv_bipush (v := 8) hx hb dL_isKept_60 (by decide) ?_
            refine lv_icmp_ge (tgt := 157) hx hb dL_isKept_62 (by decide) (fun c_26 => ?_) (fun c_26 => ?_)
            · have ez : z = nn (a 0 0) := by
                have := ge8 (by omega) c_26
                omega
              subst ez
              have hP : va_P (dC, dI) vwCl (WC cI cF h0 q a jc js jv k (capOf (nn (a 0 4)))) H := hP
              have hD : va_D A (WC cI cF h0 q a jc js jv k (capOf (nn (a 0 4)))) := hD
              exact K157 H locs ls _ _ ⟨q, jc, js, jv, k, by omega, by omega, hCq, hP, hD, hS, lv_sub hl [1, 2, 3, 4] rfl⟩
            · have hz8 := lt8 (by omega) c_26
              refine lv_aload_n hx hb dL_isKept_65 rfl (lv_at hl 4 rfl) ?_
              refine lv_iload hx hb dL_isKept_66 (lv_at hl 0 rfl) ?_
              have hP : va_P (dC, dI) vwCl (WC cI cF h0 q a jc js jv k (capOf (nn (a 0 4)))) H := hP
              have hD : va_D A (WC cI cF h0 q a jc js jv k (capOf (nn (a 0 4)))) := hD
              have hFc := y_free hD hS hA
              have hPc := hP
              have hDc := hD
              refine va_calli (vx_runSW (As := [.ref h0, .int (nI z)]) (rest := []) ⟨hx, hb, hml, hown, hts⟩ (c_L_balance l dC dI cI cF h0 q H.size a jc js jv k hst hCq hB (nI z)) (vx_cwSW 2 hts gL_isKept_L_balance rfl rfl rfl (by decide +kernel) ⟨Nat.le_of_ble_eq_true rfl, Nat.le_of_ble_eq_true rfl⟩) ⟨pcH_blind, fun U hU hW => pcH_pre hPc hDc hK hV hN hS hFc hU hW⟩ rfl rfl hl.1 rfl (lv_room (Nat.le_of_ble_eq_true rfl)) dL_isKept_68 ⟨(by show cells + 1 ≤ 1700; omega), (by show slots + 6 ≤ 10200; omega)⟩) hS (fun q _ h => hFc q h) hFc (fun r u t H1 locs ht hvm hw hB1 hz1 hk1 hS => ?_)
              obtain ⟨qn27, jcn27, jsn27, jvn27, kn27, hCn27, hPy, hKy, hDy⟩ := hB1
              rw [ht] at hPy
              have hP : va_P (dC, dI) vwCl (WC cI cF h0 qn27 a jcn27 jsn27 jvn27 kn27 (capOf (nn (a 0 4)))) _ := hPy
              have hD : va_D A (WC cI cF h0 qn27 a jcn27 jsn27 jvn27 kn27 (capOf (nn (a 0 4)))) := hDy.weaken (fun kk qq _ h => hFc qq.1 h)
              generalize H1 = H at hP hS ⊢
              have hCn27 : okC a jcn27 jsn27 jvn27 kn27 := hCn27
              refine y_topi (y := bA a (nI z)) hw ?_
              refine lv_ldc hx hb hown (hts (.constant RL 45 (-2000000001)) (List.mem_of_getElem? (i := 1) rfl)) dL_isKept_71 ?_
              refine lv_icmp_eq (tgt := 157) hx hb dL_isKept_73 (by decide) (fun c_28 => ?_) (fun c_28 => ?_)
              · have ez : z = nn (a 0 0) := by
                  by_cases q : z < nn (a 0 0)
                  · exact absurd ((bA_in hB q).symm.trans c_28) (gB z hz8)
                  · omega
                subst ez
                have hP : va_P (dC, dI) vwCl (WC cI cF h0 qn27 a jcn27 jsn27 jvn27 kn27 (capOf (nn (a 0 4)))) H := hP
                have hD : va_D A (WC cI cF h0 qn27 a jcn27 jsn27 jvn27 kn27 (capOf (nn (a 0 4)))) := hD
                exact K157 H locs ls _ _ ⟨qn27, jcn27, jsn27, jvn27, kn27, by omega, by omega, hCn27, hP, hD, hS, lv_sub hl [1, 2, 3, 4] rfl⟩
              · have hzN : z < nn (a 0 0) := by
                  by_cases q : z < nn (a 0 0)
                  · exact q
                  · exact absurd (bA_out hB (by omega) (Nat.not_lt.mp q)) c_28
                have hk0 := kSel_y hB hzN
                obtain ⟨p1, p2⟩ := gZ z hzN
                refine lv_iload_n hx hb dL_isKept_76 rfl (lv_at hl 1 rfl) ?_
                refine lv_if_eq (tgt := 157) hx hb dL_isKept_77 (by decide) (fun c_29 => ?_) (fun c_29 => ?_)
                · exact absurd c_29 (by decide)
                · refine lv_iload_n hx hb dL_isKept_80 rfl (lv_at hl 3 rfl) ?_
                  refine lv_aload_n hx hb dL_isKept_81 rfl (lv_at hl 4 rfl) ?_
                  refine lv_iload hx hb dL_isKept_82 (lv_at hl 0 rfl) ?_
                  have hP : va_P (dC, dI) vwCl (WC cI cF h0 qn27 a jcn27 jsn27 jvn27 kn27 (capOf (nn (a 0 4)))) H := hP
                  have hD : va_D A (WC cI cF h0 qn27 a jcn27 jsn27 jvn27 kn27 (capOf (nn (a 0 4)))) := hD
                  have hFc := y_free hD hS hA
                  have hPc := hP
                  have hDc := hD
                  refine vx_calli (vx_runV (As := [.int (nI z)]) (rest := [.int (ksum a z)]) ⟨hx, hb, hml, hown, hts⟩ (c_X4_balance l dC dI cI cF h0 qn27 H.size a jcn27 jsn27 jvn27 kn27 hst hCn27 hB (nI z)) (cwV 1 hts gL_isKept_X4_balance rfl rfl rfl (by decide +kernel) ⟨Nat.le_of_ble_eq_true rfl, Nat.le_of_ble_eq_true rfl⟩) ⟨pcV_blind, va_recv hK hPc (ci := 4) (q0 := 0) rfl rfl, fun U hU hW => pcV_pre hPc hDc hK hV hS hFc hU hW⟩ rfl rfl hl.1 rfl (lv_room (Nat.le_of_ble_eq_true rfl)) dL_isKept_84 ⟨(by show cells + 1 + 1 ≤ 1700; omega), (by show slots + 6 + 6 ≤ 10200; omega)⟩) hS (fun q _ h => hFc q h) hFc (fun q _ h => hFc q h) (fun E ce q9 u t H1 locs ht hvm hw hBx hz1 hk1 hS hce hcv hcl => absurd hk0 hw) (fun r u t H1 locs ht hvm hw hB1 hz1 hk1 hS => ?_)
                  obtain ⟨qn30, jcn30, jsn30, jvn30, kn30, hCn30, hPy, hKy, hDy⟩ := hB1
                  rw [ht] at hPy
                  have hP : va_P (dC, dI) vwCl (WC cI cF h0 qn30 a jcn30 jsn30 jvn30 kn30 (capOf (nn (a 0 4)))) _ := hPy
                  have hD : va_D A (WC cI cF h0 qn30 a jcn30 jsn30 jvn30 kn30 (capOf (nn (a 0 4)))) := hDy.weaken (fun kk qq _ h => hFc qq.1 h)
                  generalize H1 = H at hP hS ⊢
                  have hCn30 : okC a jcn30 jsn30 jvn30 kn30 := hCn30
                  refine y_topi (y := a 7 z) (by rw [hw.2, nnI (by omega)]) ?_
                  refine lv_aload_n hx hb dL_isKept_87 rfl (lv_at hl 4 rfl) ?_
                  refine lv_iload hx hb dL_isKept_88 (lv_at hl 0 rfl) ?_
                  have hP : va_P (dC, dI) vwCl (WC cI cF h0 qn30 a jcn30 jsn30 jvn30 kn30 (capOf (nn (a 0 4)))) H := hP
                  have hD : va_D A (WC cI cF h0 qn30 a jcn30 jsn30 jvn30 kn30 (capOf (nn (a 0 4)))) := hD
                  have hFc := y_free hD hS hA
                  have hPc := hP
                  have hDc := hD
                  refine vx_calli (vx_runV (As := [.int (nI z)]) (rest := [.int (a 7 z), .int (ksum a z)]) ⟨hx, hb, hml, hown, hts⟩ (c_X4_reserve l dC dI cI cF h0 qn30 H.size a jcn30 jsn30 jvn30 kn30 hst hCn30 hB (nI z)) (cwV 1 hts gL_isKept_X4_reserve rfl rfl rfl (by decide +kernel) ⟨Nat.le_of_ble_eq_true rfl, Nat.le_of_ble_eq_true rfl⟩) ⟨pcV_blind, va_recv hK hPc (ci := 4) (q0 := 0) rfl rfl, fun U hU hW => pcV_pre hPc hDc hK hV hS hFc hU hW⟩ rfl rfl hl.1 rfl (lv_room (Nat.le_of_ble_eq_true rfl)) dL_isKept_90 ⟨(by show cells + 1 + 1 + 1 ≤ 1700; omega), (by show slots + 6 + 6 + 6 ≤ 10200; omega)⟩) hS (fun q _ h => hFc q h) hFc (fun q _ h => hFc q h) (fun E ce q9 u t H1 locs ht hvm hw hBx hz1 hk1 hS hce hcv hcl => absurd hk0 hw) (fun r u t H1 locs ht hvm hw hB1 hz1 hk1 hS => ?_)
                  obtain ⟨qn31, jcn31, jsn31, jvn31, kn31, hCn31, hPy, hKy, hDy⟩ := hB1
                  rw [ht] at hPy
                  have hP : va_P (dC, dI) vwCl (WC cI cF h0 qn31 a jcn31 jsn31 jvn31 kn31 (capOf (nn (a 0 4)))) _ := hPy
                  have hD : va_D A (WC cI cF h0 qn31 a jcn31 jsn31 jvn31 kn31 (capOf (nn (a 0 4)))) := hDy.weaken (fun kk qq _ h => hFc qq.1 h)
                  generalize H1 = H at hP hS ⊢
                  have hCn31 : okC a jcn31 jsn31 jvn31 kn31 := hCn31
                  refine y_topi (y := sHsum a z (nn (a 0 3))) (by rw [hw.2, nnI (by omega)]) ?_
                  refine lv_iadd hx hb dL_isKept_93 ?_
                  refine lv_aload_n hx hb dL_isKept_94 rfl (lv_at hl 4 rfl) ?_
                  refine lv_iload hx hb dL_isKept_95 (lv_at hl 0 rfl) ?_
                  have hP : va_P (dC, dI) vwCl (WC cI cF h0 qn31 a jcn31 jsn31 jvn31 kn31 (capOf (nn (a 0 4)))) H := hP
                  have hD : va_D A (WC cI cF h0 qn31 a jcn31 jsn31 jvn31 kn31 (capOf (nn (a 0 4)))) := hD
                  have hFc := y_free hD hS hA
                  have hPc := hP
                  have hDc := hD
                  refine vx_calli (vx_runV (As := [.int (nI z)]) (rest := [.int ((a 7 z) + (sHsum a z (nn (a 0 3)))), .int (ksum a z)]) ⟨hx, hb, hml, hown, hts⟩ (c_X4_paidTo l dC dI cI cF h0 qn31 H.size a jcn31 jsn31 jvn31 kn31 hst hCn31 hB (nI z)) (cwV 1 hts gL_isKept_X4_paidTo rfl rfl rfl (by decide +kernel) ⟨Nat.le_of_ble_eq_true rfl, Nat.le_of_ble_eq_true rfl⟩) ⟨pcV_blind, va_recv hK hPc (ci := 4) (q0 := 0) rfl rfl, fun U hU hW => pcV_pre hPc hDc hK hV hS hFc hU hW⟩ rfl rfl hl.1 rfl (lv_room (Nat.le_of_ble_eq_true rfl)) dL_isKept_97 ⟨(by show cells + 1 + 1 + 1 + 1 ≤ 1700; omega), (by show slots + 6 + 6 + 6 + 6 ≤ 10200; omega)⟩) hS (fun q _ h => hFc q h) hFc (fun q _ h => hFc q h) (fun E ce q9 u t H1 locs ht hvm hw hBx hz1 hk1 hS hce hcv hcl => absurd hk0 hw) (fun r u t H1 locs ht hvm hw hB1 hz1 hk1 hS => ?_)
                  obtain ⟨qn32, jcn32, jsn32, jvn32, kn32, hCn32, hPy, hKy, hDy⟩ := hB1
                  rw [ht] at hPy
                  have hP : va_P (dC, dI) vwCl (WC cI cF h0 qn32 a jcn32 jsn32 jvn32 kn32 (capOf (nn (a 0 4)))) _ := hPy
                  have hD : va_D A (WC cI cF h0 qn32 a jcn32 jsn32 jvn32 kn32 (capOf (nn (a 0 4)))) := hDy.weaken (fun kk qq _ h => hFc qq.1 h)
                  generalize H1 = H at hP hS ⊢
                  have hCn32 : okC a jcn32 jsn32 jvn32 kn32 := hCn32
                  refine y_topi (y := a 8 z) (by rw [hw.2, nnI (by omega)]) ?_
                  refine lv_iadd hx hb dL_isKept_100 ?_
                  refine lv_iadd hx hb dL_isKept_101 ?_
                  refine y_topi (y := ksum a (z + 1)) rfl ?_
                  refine lv_istore_n (lv' := [(1, .int (ksum a (z + 1))), (4, .int (nI z)), (3, .int 1), (2, .int (kpai a z)), (0, .ref h0)]) hx hb dL_isKept_102 rfl hl (by decide) rfl (fun ls hl => ?_)
                  refine lv_iload_n hx hb dL_isKept_103 rfl (lv_at hl 3 rfl) ?_
                  refine lv_aload_n hx hb dL_isKept_104 rfl (lv_at hl 4 rfl) ?_
                  refine lv_iload hx hb dL_isKept_105 (lv_at hl 1 rfl) ?_
                  have hP : va_P (dC, dI) vwCl (WC cI cF h0 qn32 a jcn32 jsn32 jvn32 kn32 (capOf (nn (a 0 4)))) H := hP
                  have hD : va_D A (WC cI cF h0 qn32 a jcn32 jsn32 jvn32 kn32 (capOf (nn (a 0 4)))) := hD
                  have hFc := y_free hD hS hA
                  have hPc := hP
                  have hDc := hD
                  refine vx_calli (vx_runV (As := [.int (nI z)]) (rest := [.int (kpai a z)]) ⟨hx, hb, hml, hown, hts⟩ (c_X4_paidTo l dC dI cI cF h0 qn32 H.size a jcn32 jsn32 jvn32 kn32 hst hCn32 hB (nI z)) (cwV 1 hts gL_isKept_X4_paidTo rfl rfl rfl (by decide +kernel) ⟨Nat.le_of_ble_eq_true rfl, Nat.le_of_ble_eq_true rfl⟩) ⟨pcV_blind, va_recv hK hPc (ci := 4) (q0 := 0) rfl rfl, fun U hU hW => pcV_pre hPc hDc hK hV hS hFc hU hW⟩ rfl rfl hl.1 rfl (lv_room (Nat.le_of_ble_eq_true rfl)) dL_isKept_107 ⟨(by show cells + 1 + 1 + 1 + 1 + 1 ≤ 1700; omega), (by show slots + 6 + 6 + 6 + 6 + 6 ≤ 10200; omega)⟩) hS (fun q _ h => hFc q h) hFc (fun q _ h => hFc q h) (fun E ce q9 u t H1 locs ht hvm hw hBx hz1 hk1 hS hce hcv hcl => absurd hk0 hw) (fun r u t H1 locs ht hvm hw hB1 hz1 hk1 hS => ?_)
                  obtain ⟨qn33, jcn33, jsn33, jvn33, kn33, hCn33, hPy, hKy, hDy⟩ := hB1
                  rw [ht] at hPy
                  have hP : va_P (dC, dI) vwCl (WC cI cF h0 qn33 a jcn33 jsn33 jvn33 kn33 (capOf (nn (a 0 4)))) _ := hPy
                  have hD : va_D A (WC cI cF h0 qn33 a jcn33 jsn33 jvn33 kn33 (capOf (nn (a 0 4)))) := hDy.weaken (fun kk qq _ h => hFc qq.1 h)
                  generalize H1 = H at hP hS ⊢
                  have hCn33 : okC a jcn33 jsn33 jvn33 kn33 := hCn33
                  refine y_topi (y := a 8 z) (by rw [hw.2, nnI (by omega)]) ?_
                  refine lv_iadd hx hb dL_isKept_110 ?_
                  refine y_topi (y := kpai a (z + 1)) rfl ?_
                  refine lv_istore_n (lv' := [(2, .int (kpai a (z + 1))), (1, .int (ksum a (z + 1))), (4, .int (nI z)), (3, .int 1), (0, .ref h0)]) hx hb dL_isKept_111 rfl hl (by decide) rfl (fun ls hl => ?_)
                  refine lv_aload_n hx hb dL_isKept_112 rfl (lv_at hl 4 rfl) ?_
                  refine lv_iload hx hb dL_isKept_113 (lv_at hl 2 rfl) ?_
                  have hP : va_P (dC, dI) vwCl (WC cI cF h0 qn33 a jcn33 jsn33 jvn33 kn33 (capOf (nn (a 0 4)))) H := hP
                  have hD : va_D A (WC cI cF h0 qn33 a jcn33 jsn33 jvn33 kn33 (capOf (nn (a 0 4)))) := hD
                  have hFc := y_free hD hS hA
                  have hPc := hP
                  have hDc := hD
                  refine vx_calli (vx_runV (As := [.int (nI z)]) (rest := []) ⟨hx, hb, hml, hown, hts⟩ (c_X4_reserve l dC dI cI cF h0 qn33 H.size a jcn33 jsn33 jvn33 kn33 hst hCn33 hB (nI z)) (cwV 1 hts gL_isKept_X4_reserve rfl rfl rfl (by decide +kernel) ⟨Nat.le_of_ble_eq_true rfl, Nat.le_of_ble_eq_true rfl⟩) ⟨pcV_blind, va_recv hK hPc (ci := 4) (q0 := 0) rfl rfl, fun U hU hW => pcV_pre hPc hDc hK hV hS hFc hU hW⟩ rfl rfl hl.1 rfl (lv_room (Nat.le_of_ble_eq_true rfl)) dL_isKept_115 ⟨(by show cells + 1 + 1 + 1 + 1 + 1 + 1 ≤ 1700; omega), (by show slots + 6 + 6 + 6 + 6 + 6 + 6 ≤ 10200; omega)⟩) hS (fun q _ h => hFc q h) hFc (fun q _ h => hFc q h) (fun E ce q9 u t H1 locs ht hvm hw hBx hz1 hk1 hS hce hcv hcl => absurd hk0 hw) (fun r u t H1 locs ht hvm hw hB1 hz1 hk1 hS => ?_)
                  obtain ⟨qn34, jcn34, jsn34, jvn34, kn34, hCn34, hPy, hKy, hDy⟩ := hB1
                  rw [ht] at hPy
                  have hP : va_P (dC, dI) vwCl (WC cI cF h0 qn34 a jcn34 jsn34 jvn34 kn34 (capOf (nn (a 0 4)))) _ := hPy
                  have hD : va_D A (WC cI cF h0 qn34 a jcn34 jsn34 jvn34 kn34 (capOf (nn (a 0 4)))) := hDy.weaken (fun kk qq _ h => hFc qq.1 h)
                  generalize H1 = H at hP hS ⊢
                  have hCn34 : okC a jcn34 jsn34 jvn34 kn34 := hCn34
                  refine y_topi (y := sHsum a z (nn (a 0 3))) (by rw [hw.2, nnI (by omega)]) ?_
                  refine lv_if_lt (tgt := 149) hx hb dL_isKept_118 (by decide) (fun c_35 => ?_) (fun c_35 => ?_)
                  · exact absurd p1 (Int32.not_le.mpr c_35)
                  · refine lv_aload_n hx hb dL_isKept_121 rfl (lv_at hl 4 rfl) ?_
                    refine lv_iload hx hb dL_isKept_122 (lv_at hl 2 rfl) ?_
                    have hP : va_P (dC, dI) vwCl (WC cI cF h0 qn34 a jcn34 jsn34 jvn34 kn34 (capOf (nn (a 0 4)))) H := hP
                    have hD : va_D A (WC cI cF h0 qn34 a jcn34 jsn34 jvn34 kn34 (capOf (nn (a 0 4)))) := hD
                    have hFc := y_free hD hS hA
                    have hPc := hP
                    have hDc := hD
                    refine vx_calli (vx_runV (As := [.int (nI z)]) (rest := []) ⟨hx, hb, hml, hown, hts⟩ (c_X4_paidTo l dC dI cI cF h0 qn34 H.size a jcn34 jsn34 jvn34 kn34 hst hCn34 hB (nI z)) (cwV 1 hts gL_isKept_X4_paidTo rfl rfl rfl (by decide +kernel) ⟨Nat.le_of_ble_eq_true rfl, Nat.le_of_ble_eq_true rfl⟩) ⟨pcV_blind, va_recv hK hPc (ci := 4) (q0 := 0) rfl rfl, fun U hU hW => pcV_pre hPc hDc hK hV hS hFc hU hW⟩ rfl rfl hl.1 rfl (lv_room (Nat.le_of_ble_eq_true rfl)) dL_isKept_124 ⟨(by show cells + 1 + 1 + 1 + 1 + 1 + 1 + 1 ≤ 1700; omega), (by show slots + 6 + 6 + 6 + 6 + 6 + 6 + 6 ≤ 10200; omega)⟩) hS (fun q _ h => hFc q h) hFc (fun q _ h => hFc q h) (fun E ce q9 u t H1 locs ht hvm hw hBx hz1 hk1 hS hce hcv hcl => absurd hk0 hw) (fun r u t H1 locs ht hvm hw hB1 hz1 hk1 hS => ?_)
                    obtain ⟨qn36, jcn36, jsn36, jvn36, kn36, hCn36, hPy, hKy, hDy⟩ := hB1
                    rw [ht] at hPy
                    have hP : va_P (dC, dI) vwCl (WC cI cF h0 qn36 a jcn36 jsn36 jvn36 kn36 (capOf (nn (a 0 4)))) _ := hPy
                    have hD : va_D A (WC cI cF h0 qn36 a jcn36 jsn36 jvn36 kn36 (capOf (nn (a 0 4)))) := hDy.weaken (fun kk qq _ h => hFc qq.1 h)
                    generalize H1 = H at hP hS ⊢
                    have hCn36 : okC a jcn36 jsn36 jvn36 kn36 := hCn36
                    refine y_topi (y := a 8 z) (by rw [hw.2, nnI (by omega)]) ?_
                    refine lv_if_lt (tgt := 149) hx hb dL_isKept_127 (by decide) (fun c_37 => ?_) (fun c_37 => ?_)
                    · exact absurd p2 (Int32.not_le.mpr c_37)
                    · refine lv_aload_n hx hb dL_isKept_130 rfl (lv_at hl 4 rfl) ?_
                      refine lv_iload hx hb dL_isKept_131 (lv_at hl 2 rfl) ?_
                      have hP : va_P (dC, dI) vwCl (WC cI cF h0 qn36 a jcn36 jsn36 jvn36 kn36 (capOf (nn (a 0 4)))) H := hP
                      have hD : va_D A (WC cI cF h0 qn36 a jcn36 jsn36 jvn36 kn36 (capOf (nn (a 0 4)))) := hD
                      have hFc := y_free hD hS hA
                      have hPc := hP
                      have hDc := hD
                      refine vx_calli (vx_runV (As := [.int (nI z)]) (rest := []) ⟨hx, hb, hml, hown, hts⟩ (c_X4_balanceByEntries l dC dI cI cF h0 qn36 H.size a jcn36 jsn36 jvn36 kn36 hst hCn36 hB (nI z)) (cwV 1 hts gL_isKept_X4_balanceByEntries rfl rfl rfl (by decide +kernel) ⟨Nat.le_of_ble_eq_true rfl, Nat.le_of_ble_eq_true rfl⟩) ⟨pcV_blind, va_recv hK hPc (ci := 4) (q0 := 0) rfl rfl, fun U hU hW => pcV_pre hPc hDc hK hV hS hFc hU hW⟩ rfl rfl hl.1 rfl (lv_room (Nat.le_of_ble_eq_true rfl)) dL_isKept_133 ⟨(by show cells + 1 + 1 + 1 + 1 + 1 + 1 + 1 + 1 ≤ 1700; omega), (by show slots + 6 + 6 + 6 + 6 + 6 + 6 + 6 + 6 ≤ 10200; omega)⟩) hS (fun q _ h => hFc q h) hFc (fun q _ h => hFc q h) (fun E ce q9 u t H1 locs ht hvm hw hBx hz1 hk1 hS hce hcv hcl => absurd hk0 hw) (fun r u t H1 locs ht hvm hw hB1 hz1 hk1 hS => ?_)
                      obtain ⟨qn38, jcn38, jsn38, jvn38, kn38, hCn38, hPy, hKy, hDy⟩ := hB1
                      rw [ht] at hPy
                      have hP : va_P (dC, dI) vwCl (WC cI cF h0 qn38 a jcn38 jsn38 jvn38 kn38 (capOf (nn (a 0 4)))) _ := hPy
                      have hD : va_D A (WC cI cF h0 qn38 a jcn38 jsn38 jvn38 kn38 (capOf (nn (a 0 4)))) := hDy.weaken (fun kk qq _ h => hFc qq.1 h)
                      generalize H1 = H at hP hS ⊢
                      have hCn38 : okC a jcn38 jsn38 jvn38 kn38 := hCn38
                      refine y_topi (y := a 7 z) (by rw [hw.2, nnI (by omega)]) ?_
                      refine lv_aload_n hx hb dL_isKept_136 rfl (lv_at hl 4 rfl) ?_
                      refine lv_iload hx hb dL_isKept_137 (lv_at hl 2 rfl) ?_
                      have hP : va_P (dC, dI) vwCl (WC cI cF h0 qn38 a jcn38 jsn38 jvn38 kn38 (capOf (nn (a 0 4)))) H := hP
                      have hD : va_D A (WC cI cF h0 qn38 a jcn38 jsn38 jvn38 kn38 (capOf (nn (a 0 4)))) := hD
                      have hFc := y_free hD hS hA
                      have hPc := hP
                      have hDc := hD
                      refine vx_calli (vx_runV (As := [.int (nI z)]) (rest := [.int (a 7 z)]) ⟨hx, hb, hml, hown, hts⟩ (c_X4_balance l dC dI cI cF h0 qn38 H.size a jcn38 jsn38 jvn38 kn38 hst hCn38 hB (nI z)) (cwV 1 hts gL_isKept_X4_balance rfl rfl rfl (by decide +kernel) ⟨Nat.le_of_ble_eq_true rfl, Nat.le_of_ble_eq_true rfl⟩) ⟨pcV_blind, va_recv hK hPc (ci := 4) (q0 := 0) rfl rfl, fun U hU hW => pcV_pre hPc hDc hK hV hS hFc hU hW⟩ rfl rfl hl.1 rfl (lv_room (Nat.le_of_ble_eq_true rfl)) dL_isKept_139 ⟨(by show cells + 1 + 1 + 1 + 1 + 1 + 1 + 1 + 1 + 1 ≤ 1700; omega), (by show slots + 6 + 6 + 6 + 6 + 6 + 6 + 6 + 6 + 6 ≤ 10200; omega)⟩) hS (fun q _ h => hFc q h) hFc (fun q _ h => hFc q h) (fun E ce q9 u t H1 locs ht hvm hw hBx hz1 hk1 hS hce hcv hcl => absurd hk0 hw) (fun r u t H1 locs ht hvm hw hB1 hz1 hk1 hS => ?_)
                      obtain ⟨qn39, jcn39, jsn39, jvn39, kn39, hCn39, hPy, hKy, hDy⟩ := hB1
                      rw [ht] at hPy
                      have hP : va_P (dC, dI) vwCl (WC cI cF h0 qn39 a jcn39 jsn39 jvn39 kn39 (capOf (nn (a 0 4)))) _ := hPy
                      have hD : va_D A (WC cI cF h0 qn39 a jcn39 jsn39 jvn39 kn39 (capOf (nn (a 0 4)))) := hDy.weaken (fun kk qq _ h => hFc qq.1 h)
                      generalize H1 = H at hP hS ⊢
                      have hCn39 : okC a jcn39 jsn39 jvn39 kn39 := hCn39
                      refine y_topi (y := a 7 z) (by rw [hw.2, nnI (by omega)]) ?_
                      refine lv_icmp_ne (tgt := 149) hx hb dL_isKept_142 (by decide) (fun c_40 => ?_) (fun c_40 => ?_)
                      · exact absurd rfl c_40
                      · refine lv_iconst (v := 1) hx hb dL_isKept_145 (by decide) ?_
                        refine lv_goto (tgt := 150) hx hb dL_isKept_146 (by decide) ?_
                        refine lv_istore_n (lv' := [(3, .int 1), (2, .int (kpai a (z + 1))), (1, .int (ksum a (z + 1))), (4, .int (nI z)), (0, .ref h0)]) hx hb dL_isKept_150 rfl hl (by decide) rfl (fun ls hl => ?_)
                        refine lv_iinc (v := nI (z + 1)) (lv' := [(4, .int (nI (z + 1))), (3, .int 1), (2, .int (kpai a (z + 1))), (1, .int (ksum a (z + 1))), (0, .ref h0)]) hx hb dL_isKept_151 hl (k := 3) rfl (nI_1 z) (by decide) rfl (fun ls hl => ?_)
                        refine lv_goto (tgt := 58) hx hb dL_isKept_154 (by decide) ?_
                        have hP : va_P (dC, dI) vwCl (WC cI cF h0 qn39 a jcn39 jsn39 jvn39 kn39 (capOf (nn (a 0 4)))) H := hP
                        have hD : va_D A (WC cI cF h0 qn39 a jcn39 jsn39 jvn39 kn39 (capOf (nn (a 0 4)))) := hD
                        exact ih (k9 - 1) H locs ls _ _ (by omega) ⟨z + 1, qn39, jcn39, jsn39, jvn39, kn39, by omega, by omega, by omega, hCn39, hP, hD, hS, lv_sub hl [0, 1, 2, 3, 4] rfl⟩
