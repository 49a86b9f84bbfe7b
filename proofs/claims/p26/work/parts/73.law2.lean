set_option maxHeartbeats 4000000 in
set_option maxRecDepth 100000 in
theorem law_a {p : Program} {l : Launch} {e : Env} {s : State} {m : MethodId} {below : List Frame} {meth : Method} {c : Code} {Q : State → Prop} {b L : Nat} {xs : Nat → Int32} {dC : Nat → ClassId} {dI : Nat → Nat → Nat} {cI cF : ClassId} {A : Nat → Prop} {h0 h1 : Nat} (hst : l.stackTraces = false) (hx : p.tables.exec = Jvm.exec) (hb : c.code = cL_law) (hml : c.maxLocals = 7) (hown : s.vm.findClass RL = some m.cls) (hts : ∀ w ∈ wsL_law, w.before #[Value.ref b] s = true) (hX : va_X b L xs s s.heap) (hbl : b < s.heap.size) (hbA : ¬ A b) (hA : ∀ q : Nat, s.heap.size ≤ q → A q) (hK : va_K (dC, dI) vwCl [(cI, .int), (cF, .float)] s) (hV : okV A s) (hN : okN3 s) (hL : L ≤ 260) (hend : ∀ (H : Heap) (locs : List Loc) (cells slots : Nat) (ls : Array Slot), va_S A s.heap H locs → cells ≤ 609056 → slots ≤ 7274300 → W p l e room_1 s m #[Value.ref b] below meth c H locs cells slots Q (F0 m 286 ls [.int 1])) {a : yA} (hI : okX a 0 0 0) (h00 : a 0 0 = nI 0) {q : Nat → Nat} {jc js jv : Nat → Int32} {k : Nat} {q2 : Nat → Nat} {jc2 js2 jv2 : Nat → Int32} {k2 : Nat} {H : Heap} {locs : List Loc} {cells slots : Nat} {ls : Array Slot} (hC : okC a jc js jv k) (hC2 : okC a jc2 js2 jv2 k2) (hP : va_P (dC, dI) vwCl (WB cI cF h0 q a jc js jv k (capOf (nn (a 0 4))) h1 q2 a jc2 js2 jv2 k2 (capOf (nn (a 0 4)))) H) (hD : va_D A (WB cI cF h0 q a jc js jv k (capOf (nn (a 0 4))) h1 q2 a jc2 js2 jv2 k2 (capOf (nn (a 0 4))))) (hS : va_S A s.heap H locs) (hl : lv_has ls 7 [(4, .int (nI 0)), (3, .int 1), (2, .ref h1), (1, .ref h0), (0, .ref b)]) (hc : cells ≤ 1000) (hs : slots ≤ 20000) : W p l e room_1 s m #[Value.ref b] below meth c H locs cells slots Q (F0 m 21 ls []) := by
  have hP : va_P (dC, dI) vwCl (WB cI cF h0 q a jc js jv k (capOf (nn (a 0 4))) h1 q2 a jc2 js2 jv2 k2 (capOf (nn (a 0 4)))) H := hP
  have hD : va_D A (WB cI cF h0 q a jc js jv k (capOf (nn (a 0 4))) h1 q2 a jc2 js2 jv2 k2 (capOf (nn (a 0 4)))) := hD
  refine y_loopC (fun k9 H locs ls cells slots => ∃ (i : Nat) (a : yA) (q : Nat → Nat) (jc js jv : Nat → Int32) (k : Nat) (q2 : Nat → Nat) (jc2 js2 jv2 : Nat → Int32) (k2 : Nat), k9 + i = 3 ∧ okX a i 0 0 ∧ a 0 0 = nI i ∧ cells ≤ 1000 + 2052 * i ∧ slots ≤ 20000 + 12312 * i ∧ okC a jc js jv k ∧ okC a jc2 js2 jv2 k2 ∧ va_P (dC, dI) vwCl (WB cI cF h0 q a jc js jv k (capOf (nn (a 0 4))) h1 q2 a jc2 js2 jv2 k2 (capOf (nn (a 0 4)))) H ∧ va_D A (WB cI cF h0 q a jc js jv k (capOf (nn (a 0 4))) h1 q2 a jc2 js2 jv2 k2 (capOf (nn (a 0 4)))) ∧ va_S A s.heap H locs ∧ lv_has ls 7 [(4, .int (nI i)), (3, .int 1), (2, .ref h1), (1, .ref h0), (0, .ref b)]) (3) ⟨0, a, q, jc, js, jv, k, q2, jc2, js2, jv2, k2, rfl, hI, h00, (by omega), (by omega), hC, hC2, hP, hD, hS, lv_sub hl [0, 1, 2, 3, 4] rfl⟩ (fun k9 H locs ls cells slots hI9 ih => ?_)
  obtain ⟨i, a, q, jc, js, jv, k, q2, jc2, js2, jv2, k2, hf0, hf1, hf2, hf3, hf4, hCq, hCq2, hP, hD, hS, hl⟩ := hI9
  have hI := hf1
  have h00 := hf2
  have hB := okA_B hI.1
  refine lv_iload hx hb dL_law_21 (lv_at hl 0 rfl) ?_
  refine lv_iconst (v := 3) hx hb dL_law_23 (by decide) ?_
  refine lv_icmp_ge (tgt := 83) hx hb dL_law_24 (by decide) (fun c_1 => ?_) (fun c_1 => ?_)
  · have ei : i = 3 := by
      have h9 := (nI_leI (a := 3) (by decide) (by omega)).mp c_1
      omega
    subst ei
    refine lv_iconst (v := 3) hx hb dL_law_83 (by decide) ?_
    refine lv_istore (lv' := [(4, .int 3), (3, .int 1), (2, .ref h1), (1, .ref h0), (0, .ref b)]) hx hb dL_law_84 hl (by decide) rfl (fun ls hl => ?_)
    have hl : lv_has ls 7 [(4, .int (nI 3)), (3, .int 1), (2, .ref h1), (1, .ref h0), (0, .ref b)] := hl
    exact law_b hst hx hb hml hown hts hX hbl hbA hA hK hV hN hL hend hI hCq hCq2 hP hD hS (lv_sub hl [0, 1, 2, 3, 4] rfl) (by show cells ≤ 10000; omega) (by show slots ≤ 60000; omega)
  · have hi3 : i < 3 := by
      by_cases q : i < 3
      · exact q
      · exact absurd ((nI_leI (a := 3) (by decide) (by omega)).mpr (by omega)) c_1
    refine lv_iload_n hx hb dL_law_27 rfl (lv_at hl 1 rfl) ?_
    refine lv_if_eq (tgt := 75) hx hb dL_law_28 (by decide) (fun c_2 => ?_) (fun c_2 => ?_)
    · exact absurd c_2 (by decide)
    · obtain ⟨e1, e2, e3⟩ := add_ok hI h00 hi3 (celI xs L (nI i))
      refine lv_aload_n hx hb dL_law_31 rfl (lv_at hl 3 rfl) ?_
      refine lv_iconst (v := 0) hx hb dL_law_32 (by decide) ?_
      refine lv_aload_n hx hb dL_law_33 rfl (lv_at hl 4 rfl) ?_
      refine lv_iload hx hb dL_law_34 (lv_at hl 0 rfl) ?_
      refine va_calli (va_runS (As := [.ref b, .int (nI i)]) (rest := [.int 0, .ref h0]) ⟨hx, hb, hml, hown, hts⟩ (c_L_cell l b L xs hL i (by omega)) (va_cwS 2 hts gL_law_L_cell rfl rfl rfl (by decide +kernel) ⟨Nat.le_of_ble_eq_true rfl, Nat.le_of_ble_eq_true rfl⟩) ⟨pcX_blind, fun U hU hW => pcX_pre hX hbl hbA hS hU hW⟩ rfl rfl hl.1 rfl (lv_room (Nat.le_of_ble_eq_true rfl)) dL_law_36 ⟨(by show cells + 0 ≤ 609056; omega), (by show slots + 0 ≤ 7274300; omega)⟩) hS (fun q _ h => h.elim) (fun q h => h.elim) (fun r u t H1 locs ht hvm hw hB1 hz1 hk1 hS => ?_)
      have hP := y_keptP hP hk1
      generalize H1 = H at hP hS ⊢
      refine y_topi (y := celI xs L (nI i)) hw ?_
      refine lv_iconst (v := 1) hx hb dL_law_39 (by decide) ?_
      refine lv_iand hx hb dL_law_40 ?_
      refine lv_iconst (v := 0) hx hb dL_law_41 (by decide) ?_
      refine lv_iconst (v := 0) hx hb dL_law_42 (by decide) ?_
      have hP : va_P (dC, dI) vwCl (WB cI cF h0 q a jc js jv k (capOf (nn (a 0 4))) h1 q2 a jc2 js2 jv2 k2 (capOf (nn (a 0 4)))) H := hP
      have hD : va_D A (WB cI cF h0 q a jc js jv k (capOf (nn (a 0 4))) h1 q2 a jc2 js2 jv2 k2 (capOf (nn (a 0 4)))) := hD
      have hPc := hP.sub (ws' := WC cI cF h0 q a jc js jv k (capOf (nn (a 0 4)))) [0, 1, 2, 3, 4, 5, 6, 7, 8, 9, 10, 11, 12, 13, 14, 15, 16, 17, 18, 19, 20, 21, 22, 23, 24, 25, 26] rfl
      have hDc := hD.sub (ws' := WC cI cF h0 q a jc js jv k (capOf (nn (a 0 4)))) [0, 1, 2, 3, 4, 5, 6, 7, 8, 9, 10, 11, 12, 13, 14, 15, 16, 17, 18, 19, 20, 21, 22, 23, 24, 25, 26] (by decide) rfl
      have hFc := va_free (wc := WC cI cF h0 q a jc js jv k (capOf (nn (a 0 4)))) hD hS hA [0, 1, 2, 3, 4, 5, 6, 7, 8, 9, 10, 11, 12, 13, 14, 15, 16, 17, 18, 19, 20, 21, 22, 23, 24, 25, 26] rfl
      refine va_calli (vx_runSW (As := [.ref h0, .int 0, .int ((celI xs L (nI i)) &&& 1), .int 0, .int 0]) (rest := []) ⟨hx, hb, hml, hown, hts⟩ (c_L_does l dC dI cI cF h0 q H.size a jc js jv k hst hCq hI.1 (by omega) 0 ((celI xs L (nI i)) &&& 1) 0 0) (vx_cwSW 5 hts gL_law_L_does rfl rfl rfl (by decide +kernel) ⟨Nat.le_of_ble_eq_true rfl, Nat.le_of_ble_eq_true rfl⟩) ⟨pcH_blind, fun U hU hW => pcH_pre hPc hDc hK hV hN hS hFc hU hW⟩ rfl rfl hl.1 rfl (lv_room (Nat.le_of_ble_eq_true rfl)) dL_law_43 ⟨(by show cells + 0 + 1026 ≤ 609056; omega), (by show slots + 0 + 6156 ≤ 7274300; omega)⟩) hS (fun q _ h => hFc q h) hFc (fun r u t H1 locs ht hvm hw hB1 hz1 hk1 hS => ?_)
      obtain ⟨qn3, jcn3, jsn3, jvn3, kn3, hCn3, hPy, hKy, hDy⟩ := hB1
      rw [ht] at hPy
      obtain ⟨hP, hD⟩ := va_join (wr := WC cI cF h1 q2 a jc2 js2 jv2 k2 (capOf (nn (a 0 4)))) (w1 := WC cI cF h0 qn3 (dT a 0 ((celI xs L (nI i)) &&& 1) 0 0) jcn3 jsn3 jvn3 kn3 (capOf (nn ((dT a 0 ((celI xs L (nI i)) &&& 1) 0 0) 0 4)))) hP hD [0, 1, 2, 3, 4, 5, 6, 7, 8, 9, 10, 11, 12, 13, 14, 15, 16, 17, 18, 19, 20, 21, 22, 23, 24, 25, 26] [27, 28, 29, 30, 31, 32, 33, 34, 35, 36, 37, 38, 39, 40, 41, 42, 43, 44, 45, 46, 47, 48, 49, 50, 51, 52, 53] rfl rfl (by decide) (by decide) hk1 hFc hPy hDy
      have hP := hP.sub (ws' := WB cI cF h0 qn3 (dT a 0 ((celI xs L (nI i)) &&& 1) 0 0) jcn3 jsn3 jvn3 kn3 (capOf (nn ((dT a 0 ((celI xs L (nI i)) &&& 1) 0 0) 0 4))) h1 q2 a jc2 js2 jv2 k2 (capOf (nn (a 0 4)))) [27, 28, 29, 30, 31, 32, 33, 34, 35, 36, 37, 38, 39, 40, 41, 42, 43, 44, 45, 46, 47, 48, 49, 50, 51, 52, 53, 0, 1, 2, 3, 4, 5, 6, 7, 8, 9, 10, 11, 12, 13, 14, 15, 16, 17, 18, 19, 20, 21, 22, 23, 24, 25, 26] rfl
      have hD := hD.sub (ws' := WB cI cF h0 qn3 (dT a 0 ((celI xs L (nI i)) &&& 1) 0 0) jcn3 jsn3 jvn3 kn3 (capOf (nn ((dT a 0 ((celI xs L (nI i)) &&& 1) 0 0) 0 4))) h1 q2 a jc2 js2 jv2 k2 (capOf (nn (a 0 4)))) [27, 28, 29, 30, 31, 32, 33, 34, 35, 36, 37, 38, 39, 40, 41, 42, 43, 44, 45, 46, 47, 48, 49, 50, 51, 52, 53, 0, 1, 2, 3, 4, 5, 6, 7, 8, 9, 10, 11, 12, 13, 14, 15, 16, 17, 18, 19, 20, 21, 22, 23, 24, 25, 26] (by decide) rfl
      generalize H1 = H at hP hS ⊢
      have hCn3 : okC (dT a 0 ((celI xs L (nI i)) &&& 1) 0 0) jcn3 jsn3 jvn3 kn3 := hCn3
      refine y_topi (y := nI i) (hw.trans e1) ?_
      refine lv_iload hx hb dL_law_46 (lv_at hl 0 rfl) ?_
      refine lv_icmp_ne (tgt := 75) hx hb dL_law_48 (by decide) (fun c_4 => ?_) (fun c_4 => ?_)
      · exact absurd rfl c_4
      · refine lv_aload_n hx hb dL_law_51 rfl (lv_at hl 2 rfl) ?_
        refine lv_iconst (v := 0) hx hb dL_law_52 (by decide) ?_
        refine lv_aload_n hx hb dL_law_53 rfl (lv_at hl 4 rfl) ?_
        refine lv_iload hx hb dL_law_54 (lv_at hl 0 rfl) ?_
        refine va_calli (va_runS (As := [.ref b, .int (nI i)]) (rest := [.int 0, .ref h1]) ⟨hx, hb, hml, hown, hts⟩ (c_L_cell l b L xs hL i (by omega)) (va_cwS 2 hts gL_law_L_cell rfl rfl rfl (by decide +kernel) ⟨Nat.le_of_ble_eq_true rfl, Nat.le_of_ble_eq_true rfl⟩) ⟨pcX_blind, fun U hU hW => pcX_pre hX hbl hbA hS hU hW⟩ rfl rfl hl.1 rfl (lv_room (Nat.le_of_ble_eq_true rfl)) dL_law_56 ⟨(by show cells + 0 + 1026 + 0 ≤ 609056; omega), (by show slots + 0 + 6156 + 0 ≤ 7274300; omega)⟩) hS (fun q _ h => h.elim) (fun q h => h.elim) (fun r u t H1 locs ht hvm hw hB1 hz1 hk1 hS => ?_)
        have hP := y_keptP hP hk1
        generalize H1 = H at hP hS ⊢
        refine y_topi (y := celI xs L (nI i)) hw ?_
        refine lv_iconst (v := 1) hx hb dL_law_59 (by decide) ?_
        refine lv_iand hx hb dL_law_60 ?_
        refine lv_iconst (v := 0) hx hb dL_law_61 (by decide) ?_
        refine lv_iconst (v := 0) hx hb dL_law_62 (by decide) ?_
        have hP : va_P (dC, dI) vwCl (WB cI cF h0 qn3 (dT a 0 ((celI xs L (nI i)) &&& 1) 0 0) jcn3 jsn3 jvn3 kn3 (capOf (nn ((dT a 0 ((celI xs L (nI i)) &&& 1) 0 0) 0 4))) h1 q2 a jc2 js2 jv2 k2 (capOf (nn (a 0 4)))) H := hP
        have hD : va_D A (WB cI cF h0 qn3 (dT a 0 ((celI xs L (nI i)) &&& 1) 0 0) jcn3 jsn3 jvn3 kn3 (capOf (nn ((dT a 0 ((celI xs L (nI i)) &&& 1) 0 0) 0 4))) h1 q2 a jc2 js2 jv2 k2 (capOf (nn (a 0 4)))) := hD
        have hPc := hP.sub (ws' := WC cI cF h1 q2 a jc2 js2 jv2 k2 (capOf (nn (a 0 4)))) [27, 28, 29, 30, 31, 32, 33, 34, 35, 36, 37, 38, 39, 40, 41, 42, 43, 44, 45, 46, 47, 48, 49, 50, 51, 52, 53] rfl
        have hDc := hD.sub (ws' := WC cI cF h1 q2 a jc2 js2 jv2 k2 (capOf (nn (a 0 4)))) [27, 28, 29, 30, 31, 32, 33, 34, 35, 36, 37, 38, 39, 40, 41, 42, 43, 44, 45, 46, 47, 48, 49, 50, 51, 52, 53] (by decide) rfl
        have hFc := va_free (wc := WC cI cF h1 q2 a jc2 js2 jv2 k2 (capOf (nn (a 0 4)))) hD hS hA [27, 28, 29, 30, 31, 32, 33, 34, 35, 36, 37, 38, 39, 40, 41, 42, 43, 44, 45, 46, 47, 48, 49, 50, 51, 52, 53] rfl
        refine va_calli (vx_runSW (As := [.ref h1, .int 0, .int ((celI xs L (nI i)) &&& 1), .int 0, .int 0]) (rest := []) ⟨hx, hb, hml, hown, hts⟩ (c_L_does l dC dI cI cF h1 q2 H.size a jc2 js2 jv2 k2 hst hCq2 hI.1 (by omega) 0 ((celI xs L (nI i)) &&& 1) 0 0) (vx_cwSW 5 hts gL_law_L_does rfl rfl rfl (by decide +kernel) ⟨Nat.le_of_ble_eq_true rfl, Nat.le_of_ble_eq_true rfl⟩) ⟨pcH_blind, fun U hU hW => pcH_pre hPc hDc hK hV hN hS hFc hU hW⟩ rfl rfl hl.1 rfl (lv_room (Nat.le_of_ble_eq_true rfl)) dL_law_63 ⟨(by show cells + 0 + 1026 + 0 + 1026 ≤ 609056; omega), (by show slots + 0 + 6156 + 0 + 6156 ≤ 7274300; omega)⟩) hS (fun q _ h => hFc q h) hFc (fun r u t H1 locs ht hvm hw hB1 hz1 hk1 hS => ?_)
        obtain ⟨qn5, jcn5, jsn5, jvn5, kn5, hCn5, hPy, hKy, hDy⟩ := hB1
        rw [ht] at hPy
        obtain ⟨hP, hD⟩ := va_join (wr := WC cI cF h0 qn3 (dT a 0 ((celI xs L (nI i)) &&& 1) 0 0) jcn3 jsn3 jvn3 kn3 (capOf (nn ((dT a 0 ((celI xs L (nI i)) &&& 1) 0 0) 0 4)))) (w1 := WC cI cF h1 qn5 (dT a 0 ((celI xs L (nI i)) &&& 1) 0 0) jcn5 jsn5 jvn5 kn5 (capOf (nn ((dT a 0 ((celI xs L (nI i)) &&& 1) 0 0) 0 4)))) hP hD [27, 28, 29, 30, 31, 32, 33, 34, 35, 36, 37, 38, 39, 40, 41, 42, 43, 44, 45, 46, 47, 48, 49, 50, 51, 52, 53] [0, 1, 2, 3, 4, 5, 6, 7, 8, 9, 10, 11, 12, 13, 14, 15, 16, 17, 18, 19, 20, 21, 22, 23, 24, 25, 26] rfl rfl (by decide) (by decide) hk1 hFc hPy hDy
        have hP := hP.sub (ws' := WB cI cF h0 qn3 (dT a 0 ((celI xs L (nI i)) &&& 1) 0 0) jcn3 jsn3 jvn3 kn3 (capOf (nn ((dT a 0 ((celI xs L (nI i)) &&& 1) 0 0) 0 4))) h1 qn5 (dT a 0 ((celI xs L (nI i)) &&& 1) 0 0) jcn5 jsn5 jvn5 kn5 (capOf (nn ((dT a 0 ((celI xs L (nI i)) &&& 1) 0 0) 0 4)))) [0, 1, 2, 3, 4, 5, 6, 7, 8, 9, 10, 11, 12, 13, 14, 15, 16, 17, 18, 19, 20, 21, 22, 23, 24, 25, 26, 27, 28, 29, 30, 31, 32, 33, 34, 35, 36, 37, 38, 39, 40, 41, 42, 43, 44, 45, 46, 47, 48, 49, 50, 51, 52, 53] rfl
        have hD := hD.sub (ws' := WB cI cF h0 qn3 (dT a 0 ((celI xs L (nI i)) &&& 1) 0 0) jcn3 jsn3 jvn3 kn3 (capOf (nn ((dT a 0 ((celI xs L (nI i)) &&& 1) 0 0) 0 4))) h1 qn5 (dT a 0 ((celI xs L (nI i)) &&& 1) 0 0) jcn5 jsn5 jvn5 kn5 (capOf (nn ((dT a 0 ((celI xs L (nI i)) &&& 1) 0 0) 0 4)))) [0, 1, 2, 3, 4, 5, 6, 7, 8, 9, 10, 11, 12, 13, 14, 15, 16, 17, 18, 19, 20, 21, 22, 23, 24, 25, 26, 27, 28, 29, 30, 31, 32, 33, 34, 35, 36, 37, 38, 39, 40, 41, 42, 43, 44, 45, 46, 47, 48, 49, 50, 51, 52, 53] (by decide) rfl
        generalize H1 = H at hP hS ⊢
        have hCn5 : okC (dT a 0 ((celI xs L (nI i)) &&& 1) 0 0) jcn5 jsn5 jvn5 kn5 := hCn5
        refine y_topi (y := nI i) (hw.trans e1) ?_
        refine lv_iload hx hb dL_law_66 (lv_at hl 0 rfl) ?_
        refine lv_icmp_ne (tgt := 75) hx hb dL_law_68 (by decide) (fun c_6 => ?_) (fun c_6 => ?_)
        · exact absurd rfl c_6
        · refine lv_iconst (v := 1) hx hb dL_law_71 (by decide) ?_
          refine lv_goto (tgt := 76) hx hb dL_law_72 (by decide) ?_
          refine lv_istore_n (lv' := [(3, .int 1), (4, .int (nI i)), (2, .ref h1), (1, .ref h0), (0, .ref b)]) hx hb dL_law_76 rfl hl (by decide) rfl (fun ls hl => ?_)
          refine lv_iinc (v := nI (i + 1)) (lv' := [(4, .int (nI (i + 1))), (3, .int 1), (2, .ref h1), (1, .ref h0), (0, .ref b)]) hx hb dL_law_77 hl (k := 1) rfl (nI_1 i) (by decide) rfl (fun ls hl => ?_)
          refine lv_goto (tgt := 21) hx hb dL_law_80 (by decide) ?_
          have hP : va_P (dC, dI) vwCl (WB cI cF h0 qn3 (dT a 0 ((celI xs L (nI i)) &&& 1) 0 0) jcn3 jsn3 jvn3 kn3 (capOf (nn ((dT a 0 ((celI xs L (nI i)) &&& 1) 0 0) 0 4))) h1 qn5 (dT a 0 ((celI xs L (nI i)) &&& 1) 0 0) jcn5 jsn5 jvn5 kn5 (capOf (nn ((dT a 0 ((celI xs L (nI i)) &&& 1) 0 0) 0 4)))) H := hP
          have hD : va_D A (WB cI cF h0 qn3 (dT a 0 ((celI xs L (nI i)) &&& 1) 0 0) jcn3 jsn3 jvn3 kn3 (capOf (nn ((dT a 0 ((celI xs L (nI i)) &&& 1) 0 0) 0 4))) h1 qn5 (dT a 0 ((celI xs L (nI i)) &&& 1) 0 0) jcn5 jsn5 jvn5 kn5 (capOf (nn ((dT a 0 ((celI xs L (nI i)) &&& 1) 0 0) 0 4)))) := hD
          exact ih (k9 - 1) H locs ls _ _ (by omega) ⟨i + 1, dT a 0 ((celI xs L (nI i)) &&& 1) 0 0, qn3, jcn3, jsn3, jvn3, kn3, qn5, jcn5, jsn5, jvn5, kn5, by omega, e2, e3, by omega, by omega, hCn3, hCn5, hP, hD, hS, lv_sub hl [0, 1, 2, 3, 4] rfl⟩
