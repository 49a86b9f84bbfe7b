set_option maxHeartbeats 4000000 in
set_option maxRecDepth 100000 in
theorem lc_order {p : Program} {l : Launch} {e : Env} {s : State} {m : MethodId} {below : List Frame} {meth : Method} {c : Code} {Q : State → Prop} {b L i n : Nat} {xs : Nat → Int32} {dC : Nat → ClassId} {dI : Nat → Nat → Nat} {cI cF cL cZ : ClassId} {A : Nat → Prop} (hst : l.stackTraces = false) (hx : p.tables.exec = Jvm.exec) (hb : c.code = cL_law) (hml : c.maxLocals = 7) (hown : s.vm.findClass RL = some m.cls) (hts : ∀ w ∈ wsL_law, w.before #[Value.ref b] s = true) (hX : va_X b L xs s s.heap) (hbl : b < s.heap.size) (hbA : ¬ A b) (hA : ∀ q : Nat, s.heap.size ≤ q → A q) (hK : va_K (dC, dI) vwCl [(cI, .int), (cF, .float), (cL, .long), (cZ, .boolean)] s) (hV : okV A s) (hN : okN3 s) {a : yA} (hI : okA a n) (hn : n < 512) (hi : i + 3 < L) (hL : L ≤ 2048) {h0 h1 qo : Nat} {q q2 : Nat → Nat} {jc js jv : Nat → Int32} {k : Nat} {th : Int32} {fo : Nat → Int64} {H : Heap} {locs : List Loc} {cells slots : Nat} {ls : Array Slot} (hC : okC a jc js jv k) (hP : va_P (dC, dI) vwCl (WA cI cF cL cZ h0 q a jc js jv k (capOf (nn (a 0 4))) h1 q2 a th qo fo) H) (hD : va_D A (WA cI cF cL cZ h0 q a jc js jv k (capOf (nn (a 0 4))) h1 q2 a th qo fo)) (hS : va_S A s.heap H locs) (hl : lv_has ls 7 [(4, .int (nI i)), (3, .ref qo), (2, .ref h1), (1, .ref h0), (0, .ref b)]) (hc : cells ≤ 100 + 1026 * n) (hs : slots ≤ 9000 + 6156 * n) (K : ∀ (a1 : yA) (q1 : Nat → Nat) (jc1 js1 jv1 : Nat → Int32) (k1 : Nat) (th1 : Int32) (fo1 : Nat → Int64) (H1 : Heap) (locs1 : List Loc) (ls1 : Array Slot), okA a1 (n + 1) → okC a1 jc1 js1 jv1 k1 → va_P (dC, dI) vwCl (WA cI cF cL cZ h0 q1 a1 jc1 js1 jv1 k1 (capOf (nn (a1 0 4))) h1 q2 a1 th1 qo fo1) H1 → va_D A (WA cI cF cL cZ h0 q1 a1 jc1 js1 jv1 k1 (capOf (nn (a1 0 4))) h1 q2 a1 th1 qo fo1) → va_S A s.heap H1 locs1 → lv_has ls1 7 [(4, .int (nI i)), (3, .ref qo), (2, .ref h1), (1, .ref h0), (0, .ref b)] → W p l e room_1 s m #[Value.ref b] below meth c H1 locs1 (cells + 1026) (slots + 6156) Q (F0 m 1294 ls1 [])) : W p l e room_1 s m #[Value.ref b] below meth c H locs cells slots Q (F0 m 592 ls []) := by
  have hB := okA_B hI
  refine lv_aload_n hx hb dL_law_592 rfl (lv_at hl 3 rfl) ?_
  refine lv_aload_n hx hb dL_law_593 rfl (lv_at hl 4 rfl) ?_
  refine lv_iload hx hb dL_law_594 (lv_at hl 0 rfl) ?_
  refine lv_iconst (v := 1) hx hb dL_law_596 (by decide) ?_
  refine lv_iadd hx hb dL_law_597 ?_
  refine y_topi (y := nI (i + 1)) (by first | exact nI_1 i | exact nI_add i 1) ?_
  refine va_sld hx hb hX hbl hbA hS (vp_in_nI (by omega) (by omega)) dL_law_598 ?_
  refine y_topi (y := xs (i + 1)) (by rw [nI_clamp (by omega)]) ?_
  refine lv_aload_n hx hb dL_law_599 rfl (lv_at hl 4 rfl) ?_
  refine lv_iload hx hb dL_law_600 (lv_at hl 0 rfl) ?_
  refine lv_iconst (v := 2) hx hb dL_law_602 (by decide) ?_
  refine lv_iadd hx hb dL_law_603 ?_
  refine y_topi (y := nI (i + 2)) (by first | exact nI_1 i | exact nI_add i 2) ?_
  refine va_sld hx hb hX hbl hbA hS (vp_in_nI (by omega) (by omega)) dL_law_604 ?_
  refine y_topi (y := xs (i + 2)) (by rw [nI_clamp (by omega)]) ?_
  refine lv_aload_n hx hb dL_law_605 rfl (lv_at hl 4 rfl) ?_
  refine lv_iload hx hb dL_law_606 (lv_at hl 0 rfl) ?_
  refine lv_iconst (v := 3) hx hb dL_law_608 (by decide) ?_
  refine lv_iadd hx hb dL_law_609 ?_
  refine y_topi (y := nI (i + 3)) (by first | exact nI_1 i | exact nI_add i 3) ?_
  refine va_sld hx hb hX hbl hbA hS (vp_in_nI (by omega) (by omega)) dL_law_610 ?_
  refine y_topi (y := xs (i + 3)) (by rw [nI_clamp (by omega)]) ?_
  refine lv_aload_n hx hb dL_law_611 rfl (lv_at hl 1 rfl) ?_
  have hPc := hP.sub (ws' := WL cI cF cL h0 q a jc js jv k (capOf (nn (a 0 4))) qo fo) [0, 1, 2, 3, 4, 5, 6, 7, 8, 9, 10, 11, 12, 13, 14, 15, 16, 17, 18, 19, 20, 21, 22, 23, 24, 25, 26, 49] rfl
  have hDc := hD.sub (ws' := WL cI cF cL h0 q a jc js jv k (capOf (nn (a 0 4))) qo fo) [0, 1, 2, 3, 4, 5, 6, 7, 8, 9, 10, 11, 12, 13, 14, 15, 16, 17, 18, 19, 20, 21, 22, 23, 24, 25, 26, 49] (by decide) rfl
  have hFc := va_free (wc := WL cI cF cL h0 q a jc js jv k (capOf (nn (a 0 4))) qo fo) hD hS hA [0, 1, 2, 3, 4, 5, 6, 7, 8, 9, 10, 11, 12, 13, 14, 15, 16, 17, 18, 19, 20, 21, 22, 23, 24, 25, 26, 49] rfl
  have hKc := hK.sub (tys' := [(cI, .int), (cF, .float), (cL, .long)]) [0, 1, 2] rfl
  refine va_calli (vx_runSW (As := [.ref h0, .int (xs (i + 1)), .int (xs (i + 2)), .int (xs (i + 3)), .ref qo]) (rest := []) ⟨hx, hb, hml, hown, hts⟩ (c_L_order l dC dI cI cF cL h0 qo q H.size a jc js jv k fo hst hC hB hI.2.1 (xs (i + 1)) (xs (i + 2)) (xs (i + 3))) (vx_cwSW 5 hts gL_law_L_order rfl rfl rfl (by decide +kernel) ⟨Nat.le_of_ble_eq_true rfl, Nat.le_of_ble_eq_true rfl⟩) ⟨pcH_blind, fun U hU hW => pcH_pre hPc hDc hKc hV hN hS hFc hU hW⟩ rfl rfl hl.1 rfl (lv_room (Nat.le_of_ble_eq_true rfl)) dL_law_612 ⟨(by show cells + (4) ≤ 601024; omega), (by show slots + (24) ≤ 7293034; omega)⟩) hS (fun q _ h => hFc q h) hFc (fun r fu t H1 locs ht hvm hw hB1 hz1 hk1 hS => ?_)
  obtain ⟨qy, jcy, jsy, jvy, ky, hCy, hPy, hKy, hDy⟩ := hB1
  rw [ht] at hPy
  have hwL := hw
  obtain ⟨hP, hD⟩ := va_join (wr := (WM cI cF cZ h1 q2 a th)) (w1 := WL cI cF cL h0 qy (if kOrd a (xs (i + 1)) (xs (i + 2)) (xs (i + 3)) = 0 then sOrder a (xs (i + 1)) (xs (i + 2)) (xs (i + 3)) else a) jcy jsy jvy ky (capOf (nn ((if kOrd a (xs (i + 1)) (xs (i + 2)) (xs (i + 3)) = 0 then sOrder a (xs (i + 1)) (xs (i + 2)) (xs (i + 3)) else a) 0 4))) qo fu) hP hD [0, 1, 2, 3, 4, 5, 6, 7, 8, 9, 10, 11, 12, 13, 14, 15, 16, 17, 18, 19, 20, 21, 22, 23, 24, 25, 26, 49] [27, 28, 29, 30, 31, 32, 33, 34, 35, 36, 37, 38, 39, 40, 41, 42, 43, 44, 45, 46, 47, 48] rfl rfl (by decide) (by decide) hk1 hFc hPy hDy
  have hP := hP.sub (ws' := WA cI cF cL cZ h0 qy (if kOrd a (xs (i + 1)) (xs (i + 2)) (xs (i + 3)) = 0 then sOrder a (xs (i + 1)) (xs (i + 2)) (xs (i + 3)) else a) jcy jsy jvy ky (capOf (nn ((if kOrd a (xs (i + 1)) (xs (i + 2)) (xs (i + 3)) = 0 then sOrder a (xs (i + 1)) (xs (i + 2)) (xs (i + 3)) else a) 0 4))) h1 q2 a th qo fu) [22, 23, 24, 25, 26, 27, 28, 29, 30, 31, 32, 33, 34, 35, 36, 37, 38, 39, 40, 41, 42, 43, 44, 45, 46, 47, 48, 0, 1, 2, 3, 4, 5, 6, 7, 8, 9, 10, 11, 12, 13, 14, 15, 16, 17, 18, 19, 20, 21, 49] rfl
  have hD := hD.sub (ws' := WA cI cF cL cZ h0 qy (if kOrd a (xs (i + 1)) (xs (i + 2)) (xs (i + 3)) = 0 then sOrder a (xs (i + 1)) (xs (i + 2)) (xs (i + 3)) else a) jcy jsy jvy ky (capOf (nn ((if kOrd a (xs (i + 1)) (xs (i + 2)) (xs (i + 3)) = 0 then sOrder a (xs (i + 1)) (xs (i + 2)) (xs (i + 3)) else a) 0 4))) h1 q2 a th qo fu) [22, 23, 24, 25, 26, 27, 28, 29, 30, 31, 32, 33, 34, 35, 36, 37, 38, 39, 40, 41, 42, 43, 44, 45, 46, 47, 48, 0, 1, 2, 3, 4, 5, 6, 7, 8, 9, 10, 11, 12, 13, 14, 15, 16, 17, 18, 19, 20, 21, 49] (by decide) rfl
  generalize H1 = H at hP hS ⊢
  refine y_topi (y := nI (kOrd a (xs (i + 1)) (xs (i + 2)) (xs (i + 3)))) hwL.1 ?_
  have hI1 : okA (if kOrd a (xs (i + 1)) (xs (i + 2)) (xs (i + 3)) = 0 then sOrder a (xs (i + 1)) (xs (i + 2)) (xs (i + 3)) else a) (n + 1) := by
    split
    · next h9 => exact okA_order hI hn h9
    · exact okA_up hI hn
  have hB1 := okA_B hI1
  refine lv_istore (lv' := [(5, .int (nI (kOrd a (xs (i + 1)) (xs (i + 2)) (xs (i + 3))))), (4, .int (nI i)), (3, .ref qo), (2, .ref h1), (1, .ref h0), (0, .ref b)]) hx hb dL_law_615 hl (by decide) rfl (fun ls hl => ?_)
  refine lv_aload_n hx hb dL_law_617 rfl (lv_at hl 3 rfl) ?_
  refine lv_aload_n hx hb dL_law_618 rfl (lv_at hl 5 rfl) ?_
  refine lv_iload hx hb dL_law_619 (lv_at hl 1 rfl) ?_
  refine lv_iconst (v := 1) hx hb dL_law_621 (by decide) ?_
  refine lv_iadd hx hb dL_law_622 ?_
  refine y_topi (y := nI (i + 1)) (by first | exact nI_1 i | exact nI_add i 1) ?_
  refine va_sld hx hb hX hbl hbA hS (vp_in_nI (by omega) (by omega)) dL_law_623 ?_
  refine y_topi (y := xs (i + 1)) (by rw [nI_clamp (by omega)]) ?_
  refine lv_aload_n hx hb dL_law_624 rfl (lv_at hl 5 rfl) ?_
  refine lv_iload hx hb dL_law_625 (lv_at hl 1 rfl) ?_
  refine lv_iconst (v := 2) hx hb dL_law_627 (by decide) ?_
  refine lv_iadd hx hb dL_law_628 ?_
  refine y_topi (y := nI (i + 2)) (by first | exact nI_1 i | exact nI_add i 2) ?_
  refine va_sld hx hb hX hbl hbA hS (vp_in_nI (by omega) (by omega)) dL_law_629 ?_
  refine y_topi (y := xs (i + 2)) (by rw [nI_clamp (by omega)]) ?_
  refine lv_aload_n hx hb dL_law_630 rfl (lv_at hl 5 rfl) ?_
  refine lv_iload hx hb dL_law_631 (lv_at hl 1 rfl) ?_
  refine lv_iconst (v := 3) hx hb dL_law_633 (by decide) ?_
  refine lv_iadd hx hb dL_law_634 ?_
  refine y_topi (y := nI (i + 3)) (by first | exact nI_1 i | exact nI_add i 3) ?_
  refine va_sld hx hb hX hbl hbA hS (vp_in_nI (by omega) (by omega)) dL_law_635 ?_
  refine y_topi (y := xs (i + 3)) (by rw [nI_clamp (by omega)]) ?_
  have hPc := hP.sub (ws' := WM cI cF cZ h1 q2 a th) [27, 28, 29, 30, 31, 32, 33, 34, 35, 36, 37, 38, 39, 40, 41, 42, 43, 44, 45, 46, 47, 48] rfl
  have hDc := hD.sub (ws' := WM cI cF cZ h1 q2 a th) [27, 28, 29, 30, 31, 32, 33, 34, 35, 36, 37, 38, 39, 40, 41, 42, 43, 44, 45, 46, 47, 48] (by decide) rfl
  have hFc := va_free (wc := WM cI cF cZ h1 q2 a th) hD hS hA [27, 28, 29, 30, 31, 32, 33, 34, 35, 36, 37, 38, 39, 40, 41, 42, 43, 44, 45, 46, 47, 48] rfl
  have hKc := hK.sub (tys' := [(cI, .int), (cF, .float), (cZ, .boolean)]) [0, 1, 3] rfl
  refine va_calli (va_runV (As := [.int (xs (i + 1)), .int (xs (i + 2)), .int (xs (i + 3))]) (rest := []) ⟨hx, hb, hml, hown, hts⟩ (c_X5_order l dC dI cI cF cZ h1 q2 H.size a th hB hI.2.1 (xs (i + 1)) (xs (i + 2)) (xs (i + 3))) (cwV 3 hts gL_law_X5_order rfl rfl rfl (by decide +kernel) ⟨Nat.le_of_ble_eq_true rfl, Nat.le_of_ble_eq_true rfl⟩) ⟨pcW_blind, va_recv hKc hPc (ci := 5) (q0 := 0) rfl rfl, fun U hU hW => pcW_pre hPc hDc hKc hU hW⟩ rfl rfl hl.1 rfl (lv_room (Nat.le_of_ble_eq_true rfl)) dL_law_636 ⟨(by show _ + 0 ≤ 601024; omega), (by show _ + 0 ≤ 7293034; omega)⟩) hS (fun q _ h => hFc q h) hFc (fun r u t H1 locs ht hvm hw hB1 hz1 hk1 hS => ?_)
  obtain ⟨hPy, hKy, hDy⟩ := hB1
  rw [ht] at hPy
  obtain ⟨hP, hD⟩ := va_join (wr := WL cI cF cL h0 qy (if kOrd a (xs (i + 1)) (xs (i + 2)) (xs (i + 3)) = 0 then sOrder a (xs (i + 1)) (xs (i + 2)) (xs (i + 3)) else a) jcy jsy jvy ky (capOf (nn ((if kOrd a (xs (i + 1)) (xs (i + 2)) (xs (i + 3)) = 0 then sOrder a (xs (i + 1)) (xs (i + 2)) (xs (i + 3)) else a) 0 4))) qo fu) (w1 := WM cI cF cZ h1 q2 (if kOrd a (xs (i + 1)) (xs (i + 2)) (xs (i + 3)) = 0 then sOrder a (xs (i + 1)) (xs (i + 2)) (xs (i + 3)) else a) (nI (kOrd a (xs (i + 1)) (xs (i + 2)) (xs (i + 3))))) hP hD [27, 28, 29, 30, 31, 32, 33, 34, 35, 36, 37, 38, 39, 40, 41, 42, 43, 44, 45, 46, 47, 48] [0, 1, 2, 3, 4, 5, 6, 7, 8, 9, 10, 11, 12, 13, 14, 15, 16, 17, 18, 19, 20, 21, 22, 23, 24, 25, 26, 49] rfl rfl (by decide) (by decide) hk1 hFc hPy hDy
  have hP := hP.sub (ws' := WA cI cF cL cZ h0 qy (if kOrd a (xs (i + 1)) (xs (i + 2)) (xs (i + 3)) = 0 then sOrder a (xs (i + 1)) (xs (i + 2)) (xs (i + 3)) else a) jcy jsy jvy ky (capOf (nn ((if kOrd a (xs (i + 1)) (xs (i + 2)) (xs (i + 3)) = 0 then sOrder a (xs (i + 1)) (xs (i + 2)) (xs (i + 3)) else a) 0 4))) h1 q2 (if kOrd a (xs (i + 1)) (xs (i + 2)) (xs (i + 3)) = 0 then sOrder a (xs (i + 1)) (xs (i + 2)) (xs (i + 3)) else a) (nI (kOrd a (xs (i + 1)) (xs (i + 2)) (xs (i + 3)))) qo fu) [0, 1, 2, 3, 4, 5, 6, 7, 8, 9, 10, 11, 12, 13, 14, 15, 16, 17, 18, 19, 20, 21, 22, 23, 24, 25, 26, 28, 29, 30, 31, 32, 33, 34, 35, 36, 37, 38, 39, 40, 41, 42, 43, 44, 45, 46, 47, 48, 49, 27] rfl
  have hD := hD.sub (ws' := WA cI cF cL cZ h0 qy (if kOrd a (xs (i + 1)) (xs (i + 2)) (xs (i + 3)) = 0 then sOrder a (xs (i + 1)) (xs (i + 2)) (xs (i + 3)) else a) jcy jsy jvy ky (capOf (nn ((if kOrd a (xs (i + 1)) (xs (i + 2)) (xs (i + 3)) = 0 then sOrder a (xs (i + 1)) (xs (i + 2)) (xs (i + 3)) else a) 0 4))) h1 q2 (if kOrd a (xs (i + 1)) (xs (i + 2)) (xs (i + 3)) = 0 then sOrder a (xs (i + 1)) (xs (i + 2)) (xs (i + 3)) else a) (nI (kOrd a (xs (i + 1)) (xs (i + 2)) (xs (i + 3)))) qo fu) [0, 1, 2, 3, 4, 5, 6, 7, 8, 9, 10, 11, 12, 13, 14, 15, 16, 17, 18, 19, 20, 21, 22, 23, 24, 25, 26, 28, 29, 30, 31, 32, 33, 34, 35, 36, 37, 38, 39, 40, 41, 42, 43, 44, 45, 46, 47, 48, 49, 27] (by decide) rfl
  generalize H1 = H at hP hS ⊢
  have hwR := hw
  obtain ⟨rv, erv⟩ : ∃ z, z = r := ⟨_, rfl⟩
  rw [← erv] at hwR ⊢
  refine lv_istore (lv' := [(6, .int rv), (5, .int (nI (kOrd a (xs (i + 1)) (xs (i + 2)) (xs (i + 3))))), (4, .int (nI i)), (3, .ref qo), (2, .ref h1), (1, .ref h0), (0, .ref b)]) hx hb dL_law_639 hl (by decide) rfl (fun ls hl => ?_)
  refine lv_aload_n hx hb dL_law_641 rfl (lv_at hl 4 rfl) ?_
  have hPc := hP.sub (ws' := WM cI cF cZ h1 q2 (if kOrd a (xs (i + 1)) (xs (i + 2)) (xs (i + 3)) = 0 then sOrder a (xs (i + 1)) (xs (i + 2)) (xs (i + 3)) else a) (nI (kOrd a (xs (i + 1)) (xs (i + 2)) (xs (i + 3))))) [27, 28, 29, 30, 31, 32, 33, 34, 35, 36, 37, 38, 39, 40, 41, 42, 43, 44, 45, 46, 47, 48] rfl
  have hDc := hD.sub (ws' := WM cI cF cZ h1 q2 (if kOrd a (xs (i + 1)) (xs (i + 2)) (xs (i + 3)) = 0 then sOrder a (xs (i + 1)) (xs (i + 2)) (xs (i + 3)) else a) (nI (kOrd a (xs (i + 1)) (xs (i + 2)) (xs (i + 3))))) [27, 28, 29, 30, 31, 32, 33, 34, 35, 36, 37, 38, 39, 40, 41, 42, 43, 44, 45, 46, 47, 48] (by decide) rfl
  have hFc := va_free (wc := WM cI cF cZ h1 q2 (if kOrd a (xs (i + 1)) (xs (i + 2)) (xs (i + 3)) = 0 then sOrder a (xs (i + 1)) (xs (i + 2)) (xs (i + 3)) else a) (nI (kOrd a (xs (i + 1)) (xs (i + 2)) (xs (i + 3))))) hD hS hA [27, 28, 29, 30, 31, 32, 33, 34, 35, 36, 37, 38, 39, 40, 41, 42, 43, 44, 45, 46, 47, 48] rfl
  have hKc := hK.sub (tys' := [(cI, .int), (cF, .float), (cZ, .boolean)]) [0, 1, 3] rfl
  refine va_calli (va_runV (As := []) (rest := []) ⟨hx, hb, hml, hown, hts⟩ (c_X5_thrown l dC dI cI cF cZ h1 q2 H.size (if kOrd a (xs (i + 1)) (xs (i + 2)) (xs (i + 3)) = 0 then sOrder a (xs (i + 1)) (xs (i + 2)) (xs (i + 3)) else a) (nI (kOrd a (xs (i + 1)) (xs (i + 2)) (xs (i + 3)))) hB1) (cwV 0 hts gL_law_X5_thrown rfl rfl rfl (by decide +kernel) ⟨Nat.le_of_ble_eq_true rfl, Nat.le_of_ble_eq_true rfl⟩) ⟨pcW_blind, va_recv hKc hPc (ci := 5) (q0 := 0) rfl rfl, fun U hU hW => pcW_pre hPc hDc hKc hU hW⟩ rfl rfl hl.1 rfl (lv_room (Nat.le_of_ble_eq_true rfl)) dL_law_642 ⟨(by show _ + 0 ≤ 601024; omega), (by show _ + 0 ≤ 7293034; omega)⟩) hS (fun q _ h => hFc q h) hFc (fun r u t H1 locs ht hvm hw hB1 hz1 hk1 hS => ?_)
  obtain ⟨hPy, hKy, hDy⟩ := hB1
  rw [ht] at hPy
  obtain ⟨hP, hD⟩ := va_join (wr := WL cI cF cL h0 qy (if kOrd a (xs (i + 1)) (xs (i + 2)) (xs (i + 3)) = 0 then sOrder a (xs (i + 1)) (xs (i + 2)) (xs (i + 3)) else a) jcy jsy jvy ky (capOf (nn ((if kOrd a (xs (i + 1)) (xs (i + 2)) (xs (i + 3)) = 0 then sOrder a (xs (i + 1)) (xs (i + 2)) (xs (i + 3)) else a) 0 4))) qo fu) (w1 := WM cI cF cZ h1 q2 (if kOrd a (xs (i + 1)) (xs (i + 2)) (xs (i + 3)) = 0 then sOrder a (xs (i + 1)) (xs (i + 2)) (xs (i + 3)) else a) (nI (kOrd a (xs (i + 1)) (xs (i + 2)) (xs (i + 3))))) hP hD [27, 28, 29, 30, 31, 32, 33, 34, 35, 36, 37, 38, 39, 40, 41, 42, 43, 44, 45, 46, 47, 48] [0, 1, 2, 3, 4, 5, 6, 7, 8, 9, 10, 11, 12, 13, 14, 15, 16, 17, 18, 19, 20, 21, 22, 23, 24, 25, 26, 49] rfl rfl (by decide) (by decide) hk1 hFc hPy hDy
  have hP := hP.sub (ws' := WA cI cF cL cZ h0 qy (if kOrd a (xs (i + 1)) (xs (i + 2)) (xs (i + 3)) = 0 then sOrder a (xs (i + 1)) (xs (i + 2)) (xs (i + 3)) else a) jcy jsy jvy ky (capOf (nn ((if kOrd a (xs (i + 1)) (xs (i + 2)) (xs (i + 3)) = 0 then sOrder a (xs (i + 1)) (xs (i + 2)) (xs (i + 3)) else a) 0 4))) h1 q2 (if kOrd a (xs (i + 1)) (xs (i + 2)) (xs (i + 3)) = 0 then sOrder a (xs (i + 1)) (xs (i + 2)) (xs (i + 3)) else a) (nI (kOrd a (xs (i + 1)) (xs (i + 2)) (xs (i + 3)))) qo fu) [0, 1, 2, 3, 4, 5, 6, 7, 8, 9, 10, 11, 12, 13, 14, 15, 16, 17, 18, 19, 20, 21, 22, 23, 24, 25, 26, 28, 29, 30, 31, 32, 33, 34, 35, 36, 37, 38, 39, 40, 41, 42, 43, 44, 45, 46, 47, 48, 49, 27] rfl
  have hD := hD.sub (ws' := WA cI cF cL cZ h0 qy (if kOrd a (xs (i + 1)) (xs (i + 2)) (xs (i + 3)) = 0 then sOrder a (xs (i + 1)) (xs (i + 2)) (xs (i + 3)) else a) jcy jsy jvy ky (capOf (nn ((if kOrd a (xs (i + 1)) (xs (i + 2)) (xs (i + 3)) = 0 then sOrder a (xs (i + 1)) (xs (i + 2)) (xs (i + 3)) else a) 0 4))) h1 q2 (if kOrd a (xs (i + 1)) (xs (i + 2)) (xs (i + 3)) = 0 then sOrder a (xs (i + 1)) (xs (i + 2)) (xs (i + 3)) else a) (nI (kOrd a (xs (i + 1)) (xs (i + 2)) (xs (i + 3)))) qo fu) [0, 1, 2, 3, 4, 5, 6, 7, 8, 9, 10, 11, 12, 13, 14, 15, 16, 17, 18, 19, 20, 21, 22, 23, 24, 25, 26, 28, 29, 30, 31, 32, 33, 34, 35, 36, 37, 38, 39, 40, 41, 42, 43, 44, 45, 46, 47, 48, 49, 27] (by decide) rfl
  generalize H1 = H at hP hS ⊢
  refine y_topi (y := nI (kOrd a (xs (i + 1)) (xs (i + 2)) (xs (i + 3)))) hw ?_
  refine lv_iload hx hb dL_law_645 (lv_at hl 1 rfl) ?_
  refine lv_icmp_eq (tgt := 652) hx hb dL_law_647 (by decide) (fun c_1 => ?_) (fun c_1 => ?_)
  · refine lv_iload hx hb dL_law_652 (lv_at hl 1 rfl) ?_
    refine lv_if_ne (tgt := 669) hx hb dL_law_654 (by decide) (fun c_2 => ?_) (fun c_2 => ?_)
    · refine lv_goto (tgt := 1294) hx hb dL_law_669 (by decide) ?_
      refine W.widen (k := cells + 1026) (n := slots + 6156) (by omega) (by omega) ?_
      exact K _ qy jcy jsy jvy ky _ _ _ _ _ hI1 hCy hP hD hS (lv_sub hl [2, 3, 4, 5, 6] rfl)
    · have hK0 : kOrd a (xs (i + 1)) (xs (i + 2)) (xs (i + 3)) = 0 := by
        rcases kOrd_r a (xs (i + 1)) (xs (i + 2)) (xs (i + 3)) with h9 | h9 | h9 | h9 <;> first | exact h9 | (rw [h9] at c_2; exact absurd c_2 (by decide))
      refine lv_aload_n hx hb dL_law_657 rfl (lv_at hl 3 rfl) ?_
      refine lv_iconst (v := 0) hx hb dL_law_658 (by decide) ?_
      refine y_lld hx hb hK hP 49 2 rfl rfl dL_law_659 ?_
      refine lv_iload hx hb dL_law_660 (lv_at hl 0 rfl) ?_
      refine lv_i2l (v := (rv).toInt64) hx hb dL_law_662 rfl ?_
      refine y_lcmp hx hb (by rw [hwL.2 hK0, hwR hK0]) dL_law_663 ?_
      refine lv_if_eq (tgt := 669) hx hb dL_law_664 (by decide) (fun c_3 => ?_) (fun c_3 => ?_)
      · refine lv_goto (tgt := 1294) hx hb dL_law_669 (by decide) ?_
        refine W.widen (k := cells + 1026) (n := slots + 6156) (by omega) (by omega) ?_
        exact K _ qy jcy jsy jvy ky _ _ _ _ _ hI1 hCy hP hD hS (lv_sub hl [2, 3, 4, 5, 6] rfl)
      · exact absurd rfl c_3
  · exact absurd rfl c_1
set_option maxHeartbeats 4000000 in
set_option maxRecDepth 100000 in
theorem lc_pass {p : Program} {l : Launch} {e : Env} {s : State} {m : MethodId} {below : List Frame} {meth : Method} {c : Code} {Q : State → Prop} {b L i n : Nat} {xs : Nat → Int32} {dC : Nat → ClassId} {dI : Nat → Nat → Nat} {cI cF cL cZ : ClassId} {A : Nat → Prop} (hst : l.stackTraces = false) (hx : p.tables.exec = Jvm.exec) (hb : c.code = cL_law) (hml : c.maxLocals = 7) (hown : s.vm.findClass RL = some m.cls) (hts : ∀ w ∈ wsL_law, w.before #[Value.ref b] s = true) (hX : va_X b L xs s s.heap) (hbl : b < s.heap.size) (hbA : ¬ A b) (hA : ∀ q : Nat, s.heap.size ≤ q → A q) (hK : va_K (dC, dI) vwCl [(cI, .int), (cF, .float), (cL, .long), (cZ, .boolean)] s) (hV : okV A s) (hN : okN3 s) {a : yA} (hI : okA a n) (hn : n < 512) (hi : i + 3 < L) (hL : L ≤ 2048) {h0 h1 qo : Nat} {q q2 : Nat → Nat} {jc js jv : Nat → Int32} {k : Nat} {th : Int32} {fo : Nat → Int64} {H : Heap} {locs : List Loc} {cells slots : Nat} {ls : Array Slot} (hC : okC a jc js jv k) (hP : va_P (dC, dI) vwCl (WA cI cF cL cZ h0 q a jc js jv k (capOf (nn (a 0 4))) h1 q2 a th qo fo) H) (hD : va_D A (WA cI cF cL cZ h0 q a jc js jv k (capOf (nn (a 0 4))) h1 q2 a th qo fo)) (hS : va_S A s.heap H locs) (hl : lv_has ls 7 [(4, .int (nI i)), (3, .ref qo), (2, .ref h1), (1, .ref h0), (0, .ref b)]) (hc : cells ≤ 100 + 1026 * n) (hs : slots ≤ 9000 + 6156 * n) (K : ∀ (a1 : yA) (q1 : Nat → Nat) (jc1 js1 jv1 : Nat → Int32) (k1 : Nat) (th1 : Int32) (fo1 : Nat → Int64) (H1 : Heap) (locs1 : List Loc) (ls1 : Array Slot), okA a1 (n + 1) → okC a1 jc1 js1 jv1 k1 → va_P (dC, dI) vwCl (WA cI cF cL cZ h0 q1 a1 jc1 js1 jv1 k1 (capOf (nn (a1 0 4))) h1 q2 a1 th1 qo fo1) H1 → va_D A (WA cI cF cL cZ h0 q1 a1 jc1 js1 jv1 k1 (capOf (nn (a1 0 4))) h1 q2 a1 th1 qo fo1) → va_S A s.heap H1 locs1 → lv_has ls1 7 [(4, .int (nI i)), (3, .ref qo), (2, .ref h1), (1, .ref h0), (0, .ref b)] → W p l e room_1 s m #[Value.ref b] below meth c H1 locs1 (cells + 1026) (slots + 6156) Q (F0 m 1294 ls1 [])) : W p l e room_1 s m #[Value.ref b] below meth c H locs cells slots Q (F0 m 768 ls []) := by
  have hB := okA_B hI
  refine lv_aload_n hx hb dL_law_768 rfl (lv_at hl 3 rfl) ?_
  refine lv_aload_n hx hb dL_law_769 rfl (lv_at hl 4 rfl) ?_
  refine lv_iload hx hb dL_law_770 (lv_at hl 0 rfl) ?_
  refine lv_iconst (v := 1) hx hb dL_law_772 (by decide) ?_
  refine lv_iadd hx hb dL_law_773 ?_
  refine y_topi (y := nI (i + 1)) (by first | exact nI_1 i | exact nI_add i 1) ?_
  refine va_sld hx hb hX hbl hbA hS (vp_in_nI (by omega) (by omega)) dL_law_774 ?_
  refine y_topi (y := xs (i + 1)) (by rw [nI_clamp (by omega)]) ?_
  refine lv_aload_n hx hb dL_law_775 rfl (lv_at hl 1 rfl) ?_
  have hPc := hP.sub (ws' := WL cI cF cL h0 q a jc js jv k (capOf (nn (a 0 4))) qo fo) [0, 1, 2, 3, 4, 5, 6, 7, 8, 9, 10, 11, 12, 13, 14, 15, 16, 17, 18, 19, 20, 21, 22, 23, 24, 25, 26, 49] rfl
  have hDc := hD.sub (ws' := WL cI cF cL h0 q a jc js jv k (capOf (nn (a 0 4))) qo fo) [0, 1, 2, 3, 4, 5, 6, 7, 8, 9, 10, 11, 12, 13, 14, 15, 16, 17, 18, 19, 20, 21, 22, 23, 24, 25, 26, 49] (by decide) rfl
  have hFc := va_free (wc := WL cI cF cL h0 q a jc js jv k (capOf (nn (a 0 4))) qo fo) hD hS hA [0, 1, 2, 3, 4, 5, 6, 7, 8, 9, 10, 11, 12, 13, 14, 15, 16, 17, 18, 19, 20, 21, 22, 23, 24, 25, 26, 49] rfl
  have hKc := hK.sub (tys' := [(cI, .int), (cF, .float), (cL, .long)]) [0, 1, 2] rfl
  have hmp := mcP_le (a := a) (b := sPass a (nn (xs (i + 1))))
  refine va_calli (vx_runSW (As := [.ref h0, .int (xs (i + 1)), .ref qo]) (rest := []) ⟨hx, hb, hml, hown, hts⟩ (c_L_pass l dC dI cI cF cL h0 qo q H.size a jc js jv k fo hst hC hB hI.1.2.2.1 (xs (i + 1)) (fun h9 i9 hi9 => ((passA_ok hI hn h9).2 i9 hi9).2.2)) (vx_cwSW 3 hts gL_law_L_pass rfl rfl rfl (by decide +kernel) ⟨Nat.le_of_ble_eq_true rfl, Nat.le_of_ble_eq_true rfl⟩) ⟨pcH_blind, fun U hU hW => pcH_pre hPc hDc hKc hV hN hS hFc hU hW⟩ rfl rfl hl.1 rfl (lv_room (Nat.le_of_ble_eq_true rfl)) dL_law_776 ⟨(by show cells + (2 + mcP a (sPass a (nn (xs (i + 1))))) ≤ 601024; omega), (by show slots + (12 + mcP a (sPass a (nn (xs (i + 1)))) * 6) ≤ 7293034; omega)⟩) hS (fun q _ h => hFc q h) hFc (fun r fu t H1 locs ht hvm hw hB1 hz1 hk1 hS => ?_)
  obtain ⟨qy, jcy, jsy, jvy, ky, hCy, hPy, hKy, hDy⟩ := hB1
  rw [ht] at hPy
  have hwL := hw
  obtain ⟨hP, hD⟩ := va_join (wr := (WM cI cF cZ h1 q2 a th)) (w1 := WL cI cF cL h0 qy (if kPass a (xs (i + 1)) = 0 then sPass a (nn (xs (i + 1))) else a) jcy jsy jvy ky (capOf (nn ((if kPass a (xs (i + 1)) = 0 then sPass a (nn (xs (i + 1))) else a) 0 4))) qo fu) hP hD [0, 1, 2, 3, 4, 5, 6, 7, 8, 9, 10, 11, 12, 13, 14, 15, 16, 17, 18, 19, 20, 21, 22, 23, 24, 25, 26, 49] [27, 28, 29, 30, 31, 32, 33, 34, 35, 36, 37, 38, 39, 40, 41, 42, 43, 44, 45, 46, 47, 48] rfl rfl (by decide) (by decide) hk1 hFc hPy hDy
  have hP := hP.sub (ws' := WA cI cF cL cZ h0 qy (if kPass a (xs (i + 1)) = 0 then sPass a (nn (xs (i + 1))) else a) jcy jsy jvy ky (capOf (nn ((if kPass a (xs (i + 1)) = 0 then sPass a (nn (xs (i + 1))) else a) 0 4))) h1 q2 a th qo fu) [22, 23, 24, 25, 26, 27, 28, 29, 30, 31, 32, 33, 34, 35, 36, 37, 38, 39, 40, 41, 42, 43, 44, 45, 46, 47, 48, 0, 1, 2, 3, 4, 5, 6, 7, 8, 9, 10, 11, 12, 13, 14, 15, 16, 17, 18, 19, 20, 21, 49] rfl
  have hD := hD.sub (ws' := WA cI cF cL cZ h0 qy (if kPass a (xs (i + 1)) = 0 then sPass a (nn (xs (i + 1))) else a) jcy jsy jvy ky (capOf (nn ((if kPass a (xs (i + 1)) = 0 then sPass a (nn (xs (i + 1))) else a) 0 4))) h1 q2 a th qo fu) [22, 23, 24, 25, 26, 27, 28, 29, 30, 31, 32, 33, 34, 35, 36, 37, 38, 39, 40, 41, 42, 43, 44, 45, 46, 47, 48, 0, 1, 2, 3, 4, 5, 6, 7, 8, 9, 10, 11, 12, 13, 14, 15, 16, 17, 18, 19, 20, 21, 49] (by decide) rfl
  generalize H1 = H at hP hS ⊢
  refine y_topi (y := nI (kPass a (xs (i + 1)))) hwL.1 ?_
  have hI1 : okA (if kPass a (xs (i + 1)) = 0 then sPass a (nn (xs (i + 1))) else a) (n + 1) := by
    split
    · next h9 => exact okA_up (passA_ok hI hn h9).1 hn
    · exact okA_up hI hn
  have hB1 := okA_B hI1
  refine lv_istore (lv' := [(5, .int (nI (kPass a (xs (i + 1))))), (4, .int (nI i)), (3, .ref qo), (2, .ref h1), (1, .ref h0), (0, .ref b)]) hx hb dL_law_779 hl (by decide) rfl (fun ls hl => ?_)
  refine lv_aload_n hx hb dL_law_781 rfl (lv_at hl 3 rfl) ?_
  refine lv_aload_n hx hb dL_law_782 rfl (lv_at hl 5 rfl) ?_
  refine lv_iload hx hb dL_law_783 (lv_at hl 1 rfl) ?_
  refine lv_iconst (v := 1) hx hb dL_law_785 (by decide) ?_
  refine lv_iadd hx hb dL_law_786 ?_
  refine y_topi (y := nI (i + 1)) (by first | exact nI_1 i | exact nI_add i 1) ?_
  refine va_sld hx hb hX hbl hbA hS (vp_in_nI (by omega) (by omega)) dL_law_787 ?_
  refine y_topi (y := xs (i + 1)) (by rw [nI_clamp (by omega)]) ?_
  have hPc := hP.sub (ws' := WM cI cF cZ h1 q2 a th) [27, 28, 29, 30, 31, 32, 33, 34, 35, 36, 37, 38, 39, 40, 41, 42, 43, 44, 45, 46, 47, 48] rfl
  have hDc := hD.sub (ws' := WM cI cF cZ h1 q2 a th) [27, 28, 29, 30, 31, 32, 33, 34, 35, 36, 37, 38, 39, 40, 41, 42, 43, 44, 45, 46, 47, 48] (by decide) rfl
  have hFc := va_free (wc := WM cI cF cZ h1 q2 a th) hD hS hA [27, 28, 29, 30, 31, 32, 33, 34, 35, 36, 37, 38, 39, 40, 41, 42, 43, 44, 45, 46, 47, 48] rfl
  have hKc := hK.sub (tys' := [(cI, .int), (cF, .float), (cZ, .boolean)]) [0, 1, 3] rfl
  refine va_calli (va_runV (As := [.int (xs (i + 1))]) (rest := []) ⟨hx, hb, hml, hown, hts⟩ (c_X5_pass l dC dI cI cF cZ h1 q2 H.size a th hB (xs (i + 1)) (fun h9 i9 hi9 => (passA_ok hI hn h9).2 i9 hi9)) (cwV 1 hts gL_law_X5_pass rfl rfl rfl (by decide +kernel) ⟨Nat.le_of_ble_eq_true rfl, Nat.le_of_ble_eq_true rfl⟩) ⟨pcW_blind, va_recv hKc hPc (ci := 5) (q0 := 0) rfl rfl, fun U hU hW => pcW_pre hPc hDc hKc hU hW⟩ rfl rfl hl.1 rfl (lv_room (Nat.le_of_ble_eq_true rfl)) dL_law_788 ⟨(by show _ + 0 ≤ 601024; omega), (by show _ + 0 ≤ 7293034; omega)⟩) hS (fun q _ h => hFc q h) hFc (fun r u t H1 locs ht hvm hw hB1 hz1 hk1 hS => ?_)
  obtain ⟨hPy, hKy, hDy⟩ := hB1
  rw [ht] at hPy
  obtain ⟨hP, hD⟩ := va_join (wr := WL cI cF cL h0 qy (if kPass a (xs (i + 1)) = 0 then sPass a (nn (xs (i + 1))) else a) jcy jsy jvy ky (capOf (nn ((if kPass a (xs (i + 1)) = 0 then sPass a (nn (xs (i + 1))) else a) 0 4))) qo fu) (w1 := WM cI cF cZ h1 q2 (if kPass a (xs (i + 1)) = 0 then sPass a (nn (xs (i + 1))) else a) (nI (kPass a (xs (i + 1))))) hP hD [27, 28, 29, 30, 31, 32, 33, 34, 35, 36, 37, 38, 39, 40, 41, 42, 43, 44, 45, 46, 47, 48] [0, 1, 2, 3, 4, 5, 6, 7, 8, 9, 10, 11, 12, 13, 14, 15, 16, 17, 18, 19, 20, 21, 22, 23, 24, 25, 26, 49] rfl rfl (by decide) (by decide) hk1 hFc hPy hDy
  have hP := hP.sub (ws' := WA cI cF cL cZ h0 qy (if kPass a (xs (i + 1)) = 0 then sPass a (nn (xs (i + 1))) else a) jcy jsy jvy ky (capOf (nn ((if kPass a (xs (i + 1)) = 0 then sPass a (nn (xs (i + 1))) else a) 0 4))) h1 q2 (if kPass a (xs (i + 1)) = 0 then sPass a (nn (xs (i + 1))) else a) (nI (kPass a (xs (i + 1)))) qo fu) [0, 1, 2, 3, 4, 5, 6, 7, 8, 9, 10, 11, 12, 13, 14, 15, 16, 17, 18, 19, 20, 21, 22, 23, 24, 25, 26, 28, 29, 30, 31, 32, 33, 34, 35, 36, 37, 38, 39, 40, 41, 42, 43, 44, 45, 46, 47, 48, 49, 27] rfl
  have hD := hD.sub (ws' := WA cI cF cL cZ h0 qy (if kPass a (xs (i + 1)) = 0 then sPass a (nn (xs (i + 1))) else a) jcy jsy jvy ky (capOf (nn ((if kPass a (xs (i + 1)) = 0 then sPass a (nn (xs (i + 1))) else a) 0 4))) h1 q2 (if kPass a (xs (i + 1)) = 0 then sPass a (nn (xs (i + 1))) else a) (nI (kPass a (xs (i + 1)))) qo fu) [0, 1, 2, 3, 4, 5, 6, 7, 8, 9, 10, 11, 12, 13, 14, 15, 16, 17, 18, 19, 20, 21, 22, 23, 24, 25, 26, 28, 29, 30, 31, 32, 33, 34, 35, 36, 37, 38, 39, 40, 41, 42, 43, 44, 45, 46, 47, 48, 49, 27] (by decide) rfl
  generalize H1 = H at hP hS ⊢
  have hwR := hw
  obtain ⟨rv, erv⟩ : ∃ z, z = r := ⟨_, rfl⟩
  rw [← erv] at hwR ⊢
  refine lv_istore (lv' := [(6, .int rv), (5, .int (nI (kPass a (xs (i + 1))))), (4, .int (nI i)), (3, .ref qo), (2, .ref h1), (1, .ref h0), (0, .ref b)]) hx hb dL_law_791 hl (by decide) rfl (fun ls hl => ?_)
  refine lv_aload_n hx hb dL_law_793 rfl (lv_at hl 4 rfl) ?_
  have hPc := hP.sub (ws' := WM cI cF cZ h1 q2 (if kPass a (xs (i + 1)) = 0 then sPass a (nn (xs (i + 1))) else a) (nI (kPass a (xs (i + 1))))) [27, 28, 29, 30, 31, 32, 33, 34, 35, 36, 37, 38, 39, 40, 41, 42, 43, 44, 45, 46, 47, 48] rfl
  have hDc := hD.sub (ws' := WM cI cF cZ h1 q2 (if kPass a (xs (i + 1)) = 0 then sPass a (nn (xs (i + 1))) else a) (nI (kPass a (xs (i + 1))))) [27, 28, 29, 30, 31, 32, 33, 34, 35, 36, 37, 38, 39, 40, 41, 42, 43, 44, 45, 46, 47, 48] (by decide) rfl
  have hFc := va_free (wc := WM cI cF cZ h1 q2 (if kPass a (xs (i + 1)) = 0 then sPass a (nn (xs (i + 1))) else a) (nI (kPass a (xs (i + 1))))) hD hS hA [27, 28, 29, 30, 31, 32, 33, 34, 35, 36, 37, 38, 39, 40, 41, 42, 43, 44, 45, 46, 47, 48] rfl
  have hKc := hK.sub (tys' := [(cI, .int), (cF, .float), (cZ, .boolean)]) [0, 1, 3] rfl
  refine va_calli (va_runV (As := []) (rest := []) ⟨hx, hb, hml, hown, hts⟩ (c_X5_thrown l dC dI cI cF cZ h1 q2 H.size (if kPass a (xs (i + 1)) = 0 then sPass a (nn (xs (i + 1))) else a) (nI (kPass a (xs (i + 1)))) hB1) (cwV 0 hts gL_law_X5_thrown rfl rfl rfl (by decide +kernel) ⟨Nat.le_of_ble_eq_true rfl, Nat.le_of_ble_eq_true rfl⟩) ⟨pcW_blind, va_recv hKc hPc (ci := 5) (q0 := 0) rfl rfl, fun U hU hW => pcW_pre hPc hDc hKc hU hW⟩ rfl rfl hl.1 rfl (lv_room (Nat.le_of_ble_eq_true rfl)) dL_law_794 ⟨(by show _ + 0 ≤ 601024; omega), (by show _ + 0 ≤ 7293034; omega)⟩) hS (fun q _ h => hFc q h) hFc (fun r u t H1 locs ht hvm hw hB1 hz1 hk1 hS => ?_)
  obtain ⟨hPy, hKy, hDy⟩ := hB1
  rw [ht] at hPy
  obtain ⟨hP, hD⟩ := va_join (wr := WL cI cF cL h0 qy (if kPass a (xs (i + 1)) = 0 then sPass a (nn (xs (i + 1))) else a) jcy jsy jvy ky (capOf (nn ((if kPass a (xs (i + 1)) = 0 then sPass a (nn (xs (i + 1))) else a) 0 4))) qo fu) (w1 := WM cI cF cZ h1 q2 (if kPass a (xs (i + 1)) = 0 then sPass a (nn (xs (i + 1))) else a) (nI (kPass a (xs (i + 1))))) hP hD [27, 28, 29, 30, 31, 32, 33, 34, 35, 36, 37, 38, 39, 40, 41, 42, 43, 44, 45, 46, 47, 48] [0, 1, 2, 3, 4, 5, 6, 7, 8, 9, 10, 11, 12, 13, 14, 15, 16, 17, 18, 19, 20, 21, 22, 23, 24, 25, 26, 49] rfl rfl (by decide) (by decide) hk1 hFc hPy hDy
  have hP := hP.sub (ws' := WA cI cF cL cZ h0 qy (if kPass a (xs (i + 1)) = 0 then sPass a (nn (xs (i + 1))) else a) jcy jsy jvy ky (capOf (nn ((if kPass a (xs (i + 1)) = 0 then sPass a (nn (xs (i + 1))) else a) 0 4))) h1 q2 (if kPass a (xs (i + 1)) = 0 then sPass a (nn (xs (i + 1))) else a) (nI (kPass a (xs (i + 1)))) qo fu) [0, 1, 2, 3, 4, 5, 6, 7, 8, 9, 10, 11, 12, 13, 14, 15, 16, 17, 18, 19, 20, 21, 22, 23, 24, 25, 26, 28, 29, 30, 31, 32, 33, 34, 35, 36, 37, 38, 39, 40, 41, 42, 43, 44, 45, 46, 47, 48, 49, 27] rfl
  have hD := hD.sub (ws' := WA cI cF cL cZ h0 qy (if kPass a (xs (i + 1)) = 0 then sPass a (nn (xs (i + 1))) else a) jcy jsy jvy ky (capOf (nn ((if kPass a (xs (i + 1)) = 0 then sPass a (nn (xs (i + 1))) else a) 0 4))) h1 q2 (if kPass a (xs (i + 1)) = 0 then sPass a (nn (xs (i + 1))) else a) (nI (kPass a (xs (i + 1)))) qo fu) [0, 1, 2, 3, 4, 5, 6, 7, 8, 9, 10, 11, 12, 13, 14, 15, 16, 17, 18, 19, 20, 21, 22, 23, 24, 25, 26, 28, 29, 30, 31, 32, 33, 34, 35, 36, 37, 38, 39, 40, 41, 42, 43, 44, 45, 46, 47, 48, 49, 27] (by decide) rfl
  generalize H1 = H at hP hS ⊢
  refine y_topi (y := nI (kPass a (xs (i + 1)))) hw ?_
  refine lv_iload hx hb dL_law_797 (lv_at hl 1 rfl) ?_
  refine lv_icmp_eq (tgt := 804) hx hb dL_law_799 (by decide) (fun c_1 => ?_) (fun c_1 => ?_)
  · refine lv_iload hx hb dL_law_804 (lv_at hl 1 rfl) ?_
    refine lv_if_ne (tgt := 821) hx hb dL_law_806 (by decide) (fun c_2 => ?_) (fun c_2 => ?_)
    · refine lv_goto (tgt := 1294) hx hb dL_law_821 (by decide) ?_
      refine W.widen (k := cells + 1026) (n := slots + 6156) (by omega) (by omega) ?_
      exact K _ qy jcy jsy jvy ky _ _ _ _ _ hI1 hCy hP hD hS (lv_sub hl [2, 3, 4, 5, 6] rfl)
    · have hK0 : kPass a (xs (i + 1)) = 0 := by
        rcases kPass_r a (xs (i + 1)) with h9 | h9 | h9 <;> first | exact h9 | (rw [h9] at c_2; exact absurd c_2 (by decide))
      refine lv_aload_n hx hb dL_law_809 rfl (lv_at hl 3 rfl) ?_
      refine lv_iconst (v := 0) hx hb dL_law_810 (by decide) ?_
      refine y_lld hx hb hK hP 49 2 rfl rfl dL_law_811 ?_
      refine lv_iload hx hb dL_law_812 (lv_at hl 0 rfl) ?_
      refine lv_i2l (v := (rv).toInt64) hx hb dL_law_814 rfl ?_
      refine y_lcmp hx hb (by rw [hwL.2 hK0, hwR hK0]) dL_law_815 ?_
      refine lv_if_eq (tgt := 821) hx hb dL_law_816 (by decide) (fun c_3 => ?_) (fun c_3 => ?_)
      · refine lv_goto (tgt := 1294) hx hb dL_law_821 (by decide) ?_
        refine W.widen (k := cells + 1026) (n := slots + 6156) (by omega) (by omega) ?_
        exact K _ qy jcy jsy jvy ky _ _ _ _ _ hI1 hCy hP hD hS (lv_sub hl [2, 3, 4, 5, 6] rfl)
      · exact absurd rfl c_3
  · exact absurd rfl c_1
set_option maxHeartbeats 4000000 in
set_option maxRecDepth 100000 in
theorem lc_fail {p : Program} {l : Launch} {e : Env} {s : State} {m : MethodId} {below : List Frame} {meth : Method} {c : Code} {Q : State → Prop} {b L i n : Nat} {xs : Nat → Int32} {dC : Nat → ClassId} {dI : Nat → Nat → Nat} {cI cF cL cZ : ClassId} {A : Nat → Prop} (hst : l.stackTraces = false) (hx : p.tables.exec = Jvm.exec) (hb : c.code = cL_law) (hml : c.maxLocals = 7) (hown : s.vm.findClass RL = some m.cls) (hts : ∀ w ∈ wsL_law, w.before #[Value.ref b] s = true) (hX : va_X b L xs s s.heap) (hbl : b < s.heap.size) (hbA : ¬ A b) (hA : ∀ q : Nat, s.heap.size ≤ q → A q) (hK : va_K (dC, dI) vwCl [(cI, .int), (cF, .float), (cL, .long), (cZ, .boolean)] s) (hV : okV A s) (hN : okN3 s) {a : yA} (hI : okA a n) (hn : n < 512) (hi : i + 3 < L) (hL : L ≤ 2048) {h0 h1 qo : Nat} {q q2 : Nat → Nat} {jc js jv : Nat → Int32} {k : Nat} {th : Int32} {fo : Nat → Int64} {H : Heap} {locs : List Loc} {cells slots : Nat} {ls : Array Slot} (hC : okC a jc js jv k) (hP : va_P (dC, dI) vwCl (WA cI cF cL cZ h0 q a jc js jv k (capOf (nn (a 0 4))) h1 q2 a th qo fo) H) (hD : va_D A (WA cI cF cL cZ h0 q a jc js jv k (capOf (nn (a 0 4))) h1 q2 a th qo fo)) (hS : va_S A s.heap H locs) (hl : lv_has ls 7 [(4, .int (nI i)), (3, .ref qo), (2, .ref h1), (1, .ref h0), (0, .ref b)]) (hc : cells ≤ 100 + 1026 * n) (hs : slots ≤ 9000 + 6156 * n) (K : ∀ (a1 : yA) (q1 : Nat → Nat) (jc1 js1 jv1 : Nat → Int32) (k1 : Nat) (th1 : Int32) (fo1 : Nat → Int64) (H1 : Heap) (locs1 : List Loc) (ls1 : Array Slot), okA a1 (n + 1) → okC a1 jc1 js1 jv1 k1 → va_P (dC, dI) vwCl (WA cI cF cL cZ h0 q1 a1 jc1 js1 jv1 k1 (capOf (nn (a1 0 4))) h1 q2 a1 th1 qo fo1) H1 → va_D A (WA cI cF cL cZ h0 q1 a1 jc1 js1 jv1 k1 (capOf (nn (a1 0 4))) h1 q2 a1 th1 qo fo1) → va_S A s.heap H1 locs1 → lv_has ls1 7 [(4, .int (nI i)), (3, .ref qo), (2, .ref h1), (1, .ref h0), (0, .ref b)] → W p l e room_1 s m #[Value.ref b] below meth c H1 locs1 (cells + 1026) (slots + 6156) Q (F0 m 1294 ls1 [])) : W p l e room_1 s m #[Value.ref b] below meth c H locs cells slots Q (F0 m 824 ls []) := by
  have hB := okA_B hI
  refine lv_aload_n hx hb dL_law_824 rfl (lv_at hl 3 rfl) ?_
  refine lv_aload_n hx hb dL_law_825 rfl (lv_at hl 4 rfl) ?_
  refine lv_iload hx hb dL_law_826 (lv_at hl 0 rfl) ?_
  refine lv_iconst (v := 1) hx hb dL_law_828 (by decide) ?_
  refine lv_iadd hx hb dL_law_829 ?_
  refine y_topi (y := nI (i + 1)) (by first | exact nI_1 i | exact nI_add i 1) ?_
  refine va_sld hx hb hX hbl hbA hS (vp_in_nI (by omega) (by omega)) dL_law_830 ?_
  refine y_topi (y := xs (i + 1)) (by rw [nI_clamp (by omega)]) ?_
  refine lv_aload_n hx hb dL_law_831 rfl (lv_at hl 1 rfl) ?_
  have hPc := hP.sub (ws' := WL cI cF cL h0 q a jc js jv k (capOf (nn (a 0 4))) qo fo) [0, 1, 2, 3, 4, 5, 6, 7, 8, 9, 10, 11, 12, 13, 14, 15, 16, 17, 18, 19, 20, 21, 22, 23, 24, 25, 26, 49] rfl
  have hDc := hD.sub (ws' := WL cI cF cL h0 q a jc js jv k (capOf (nn (a 0 4))) qo fo) [0, 1, 2, 3, 4, 5, 6, 7, 8, 9, 10, 11, 12, 13, 14, 15, 16, 17, 18, 19, 20, 21, 22, 23, 24, 25, 26, 49] (by decide) rfl
  have hFc := va_free (wc := WL cI cF cL h0 q a jc js jv k (capOf (nn (a 0 4))) qo fo) hD hS hA [0, 1, 2, 3, 4, 5, 6, 7, 8, 9, 10, 11, 12, 13, 14, 15, 16, 17, 18, 19, 20, 21, 22, 23, 24, 25, 26, 49] rfl
  have hKc := hK.sub (tys' := [(cI, .int), (cF, .float), (cL, .long)]) [0, 1, 2] rfl
  refine va_calli (vx_runSW (As := [.ref h0, .int (xs (i + 1)), .ref qo]) (rest := []) ⟨hx, hb, hml, hown, hts⟩ (c_L_fail l dC dI cI cF cL h0 qo q H.size a jc js jv k fo hst hC hB (xs (i + 1))) (vx_cwSW 3 hts gL_law_L_fail rfl rfl rfl (by decide +kernel) ⟨Nat.le_of_ble_eq_true rfl, Nat.le_of_ble_eq_true rfl⟩) ⟨pcH_blind, fun U hU hW => pcH_pre hPc hDc hKc hV hN hS hFc hU hW⟩ rfl rfl hl.1 rfl (lv_room (Nat.le_of_ble_eq_true rfl)) dL_law_832 ⟨(by show cells + (2) ≤ 601024; omega), (by show slots + (12) ≤ 7293034; omega)⟩) hS (fun q _ h => hFc q h) hFc (fun r fu t H1 locs ht hvm hw hB1 hz1 hk1 hS => ?_)
  obtain ⟨qy, jcy, jsy, jvy, ky, hCy, hPy, hKy, hDy⟩ := hB1
  rw [ht] at hPy
  have hwL := hw
  obtain ⟨hP, hD⟩ := va_join (wr := (WM cI cF cZ h1 q2 a th)) (w1 := WL cI cF cL h0 qy (if kFail a (xs (i + 1)) = 0 then sFail a (nn (xs (i + 1))) else a) jcy jsy jvy ky (capOf (nn ((if kFail a (xs (i + 1)) = 0 then sFail a (nn (xs (i + 1))) else a) 0 4))) qo fu) hP hD [0, 1, 2, 3, 4, 5, 6, 7, 8, 9, 10, 11, 12, 13, 14, 15, 16, 17, 18, 19, 20, 21, 22, 23, 24, 25, 26, 49] [27, 28, 29, 30, 31, 32, 33, 34, 35, 36, 37, 38, 39, 40, 41, 42, 43, 44, 45, 46, 47, 48] rfl rfl (by decide) (by decide) hk1 hFc hPy hDy
  have hP := hP.sub (ws' := WA cI cF cL cZ h0 qy (if kFail a (xs (i + 1)) = 0 then sFail a (nn (xs (i + 1))) else a) jcy jsy jvy ky (capOf (nn ((if kFail a (xs (i + 1)) = 0 then sFail a (nn (xs (i + 1))) else a) 0 4))) h1 q2 a th qo fu) [22, 23, 24, 25, 26, 27, 28, 29, 30, 31, 32, 33, 34, 35, 36, 37, 38, 39, 40, 41, 42, 43, 44, 45, 46, 47, 48, 0, 1, 2, 3, 4, 5, 6, 7, 8, 9, 10, 11, 12, 13, 14, 15, 16, 17, 18, 19, 20, 21, 49] rfl
  have hD := hD.sub (ws' := WA cI cF cL cZ h0 qy (if kFail a (xs (i + 1)) = 0 then sFail a (nn (xs (i + 1))) else a) jcy jsy jvy ky (capOf (nn ((if kFail a (xs (i + 1)) = 0 then sFail a (nn (xs (i + 1))) else a) 0 4))) h1 q2 a th qo fu) [22, 23, 24, 25, 26, 27, 28, 29, 30, 31, 32, 33, 34, 35, 36, 37, 38, 39, 40, 41, 42, 43, 44, 45, 46, 47, 48, 0, 1, 2, 3, 4, 5, 6, 7, 8, 9, 10, 11, 12, 13, 14, 15, 16, 17, 18, 19, 20, 21, 49] (by decide) rfl
  generalize H1 = H at hP hS ⊢
  refine y_topi (y := nI (kFail a (xs (i + 1)))) hwL.1 ?_
  have hI1 : okA (if kFail a (xs (i + 1)) = 0 then sFail a (nn (xs (i + 1))) else a) (n + 1) := by
    split
    · next h9 => exact okA_fail hI hn h9
    · exact okA_up hI hn
  have hB1 := okA_B hI1
  refine lv_istore (lv' := [(5, .int (nI (kFail a (xs (i + 1))))), (4, .int (nI i)), (3, .ref qo), (2, .ref h1), (1, .ref h0), (0, .ref b)]) hx hb dL_law_835 hl (by decide) rfl (fun ls hl => ?_)
  refine lv_aload_n hx hb dL_law_837 rfl (lv_at hl 3 rfl) ?_
  refine lv_aload_n hx hb dL_law_838 rfl (lv_at hl 5 rfl) ?_
  refine lv_iload hx hb dL_law_839 (lv_at hl 1 rfl) ?_
  refine lv_iconst (v := 1) hx hb dL_law_841 (by decide) ?_
  refine lv_iadd hx hb dL_law_842 ?_
  refine y_topi (y := nI (i + 1)) (by first | exact nI_1 i | exact nI_add i 1) ?_
  refine va_sld hx hb hX hbl hbA hS (vp_in_nI (by omega) (by omega)) dL_law_843 ?_
  refine y_topi (y := xs (i + 1)) (by rw [nI_clamp (by omega)]) ?_
  have hPc := hP.sub (ws' := WM cI cF cZ h1 q2 a th) [27, 28, 29, 30, 31, 32, 33, 34, 35, 36, 37, 38, 39, 40, 41, 42, 43, 44, 45, 46, 47, 48] rfl
  have hDc := hD.sub (ws' := WM cI cF cZ h1 q2 a th) [27, 28, 29, 30, 31, 32, 33, 34, 35, 36, 37, 38, 39, 40, 41, 42, 43, 44, 45, 46, 47, 48] (by decide) rfl
  have hFc := va_free (wc := WM cI cF cZ h1 q2 a th) hD hS hA [27, 28, 29, 30, 31, 32, 33, 34, 35, 36, 37, 38, 39, 40, 41, 42, 43, 44, 45, 46, 47, 48] rfl
  have hKc := hK.sub (tys' := [(cI, .int), (cF, .float), (cZ, .boolean)]) [0, 1, 3] rfl
  refine va_calli (va_runV (As := [.int (xs (i + 1))]) (rest := []) ⟨hx, hb, hml, hown, hts⟩ (c_X5_fail l dC dI cI cF cZ h1 q2 H.size a th hB (xs (i + 1))) (cwV 1 hts gL_law_X5_fail rfl rfl rfl (by decide +kernel) ⟨Nat.le_of_ble_eq_true rfl, Nat.le_of_ble_eq_true rfl⟩) ⟨pcW_blind, va_recv hKc hPc (ci := 5) (q0 := 0) rfl rfl, fun U hU hW => pcW_pre hPc hDc hKc hU hW⟩ rfl rfl hl.1 rfl (lv_room (Nat.le_of_ble_eq_true rfl)) dL_law_844 ⟨(by show _ + 0 ≤ 601024; omega), (by show _ + 0 ≤ 7293034; omega)⟩) hS (fun q _ h => hFc q h) hFc (fun r u t H1 locs ht hvm hw hB1 hz1 hk1 hS => ?_)
  obtain ⟨hPy, hKy, hDy⟩ := hB1
  rw [ht] at hPy
  obtain ⟨hP, hD⟩ := va_join (wr := WL cI cF cL h0 qy (if kFail a (xs (i + 1)) = 0 then sFail a (nn (xs (i + 1))) else a) jcy jsy jvy ky (capOf (nn ((if kFail a (xs (i + 1)) = 0 then sFail a (nn (xs (i + 1))) else a) 0 4))) qo fu) (w1 := WM cI cF cZ h1 q2 (if kFail a (xs (i + 1)) = 0 then sFail a (nn (xs (i + 1))) else a) (nI (kFail a (xs (i + 1))))) hP hD [27, 28, 29, 30, 31, 32, 33, 34, 35, 36, 37, 38, 39, 40, 41, 42, 43, 44, 45, 46, 47, 48] [0, 1, 2, 3, 4, 5, 6, 7, 8, 9, 10, 11, 12, 13, 14, 15, 16, 17, 18, 19, 20, 21, 22, 23, 24, 25, 26, 49] rfl rfl (by decide) (by decide) hk1 hFc hPy hDy
  have hP := hP.sub (ws' := WA cI cF cL cZ h0 qy (if kFail a (xs (i + 1)) = 0 then sFail a (nn (xs (i + 1))) else a) jcy jsy jvy ky (capOf (nn ((if kFail a (xs (i + 1)) = 0 then sFail a (nn (xs (i + 1))) else a) 0 4))) h1 q2 (if kFail a (xs (i + 1)) = 0 then sFail a (nn (xs (i + 1))) else a) (nI (kFail a (xs (i + 1)))) qo fu) [0, 1, 2, 3, 4, 5, 6, 7, 8, 9, 10, 11, 12, 13, 14, 15, 16, 17, 18, 19, 20, 21, 22, 23, 24, 25, 26, 28, 29, 30, 31, 32, 33, 34, 35, 36, 37, 38, 39, 40, 41, 42, 43, 44, 45, 46, 47, 48, 49, 27] rfl
  have hD := hD.sub (ws' := WA cI cF cL cZ h0 qy (if kFail a (xs (i + 1)) = 0 then sFail a (nn (xs (i + 1))) else a) jcy jsy jvy ky (capOf (nn ((if kFail a (xs (i + 1)) = 0 then sFail a (nn (xs (i + 1))) else a) 0 4))) h1 q2 (if kFail a (xs (i + 1)) = 0 then sFail a (nn (xs (i + 1))) else a) (nI (kFail a (xs (i + 1)))) qo fu) [0, 1, 2, 3, 4, 5, 6, 7, 8, 9, 10, 11, 12, 13, 14, 15, 16, 17, 18, 19, 20, 21, 22, 23, 24, 25, 26, 28, 29, 30, 31, 32, 33, 34, 35, 36, 37, 38, 39, 40, 41, 42, 43, 44, 45, 46, 47, 48, 49, 27] (by decide) rfl
  generalize H1 = H at hP hS ⊢
  have hwR := hw
  obtain ⟨rv, erv⟩ : ∃ z, z = r := ⟨_, rfl⟩
  rw [← erv] at hwR ⊢
  refine lv_istore (lv' := [(6, .int rv), (5, .int (nI (kFail a (xs (i + 1))))), (4, .int (nI i)), (3, .ref qo), (2, .ref h1), (1, .ref h0), (0, .ref b)]) hx hb dL_law_847 hl (by decide) rfl (fun ls hl => ?_)
  refine lv_aload_n hx hb dL_law_849 rfl (lv_at hl 4 rfl) ?_
  have hPc := hP.sub (ws' := WM cI cF cZ h1 q2 (if kFail a (xs (i + 1)) = 0 then sFail a (nn (xs (i + 1))) else a) (nI (kFail a (xs (i + 1))))) [27, 28, 29, 30, 31, 32, 33, 34, 35, 36, 37, 38, 39, 40, 41, 42, 43, 44, 45, 46, 47, 48] rfl
  have hDc := hD.sub (ws' := WM cI cF cZ h1 q2 (if kFail a (xs (i + 1)) = 0 then sFail a (nn (xs (i + 1))) else a) (nI (kFail a (xs (i + 1))))) [27, 28, 29, 30, 31, 32, 33, 34, 35, 36, 37, 38, 39, 40, 41, 42, 43, 44, 45, 46, 47, 48] (by decide) rfl
  have hFc := va_free (wc := WM cI cF cZ h1 q2 (if kFail a (xs (i + 1)) = 0 then sFail a (nn (xs (i + 1))) else a) (nI (kFail a (xs (i + 1))))) hD hS hA [27, 28, 29, 30, 31, 32, 33, 34, 35, 36, 37, 38, 39, 40, 41, 42, 43, 44, 45, 46, 47, 48] rfl
  have hKc := hK.sub (tys' := [(cI, .int), (cF, .float), (cZ, .boolean)]) [0, 1, 3] rfl
  refine va_calli (va_runV (As := []) (rest := []) ⟨hx, hb, hml, hown, hts⟩ (c_X5_thrown l dC dI cI cF cZ h1 q2 H.size (if kFail a (xs (i + 1)) = 0 then sFail a (nn (xs (i + 1))) else a) (nI (kFail a (xs (i + 1)))) hB1) (cwV 0 hts gL_law_X5_thrown rfl rfl rfl (by decide +kernel) ⟨Nat.le_of_ble_eq_true rfl, Nat.le_of_ble_eq_true rfl⟩) ⟨pcW_blind, va_recv hKc hPc (ci := 5) (q0 := 0) rfl rfl, fun U hU hW => pcW_pre hPc hDc hKc hU hW⟩ rfl rfl hl.1 rfl (lv_room (Nat.le_of_ble_eq_true rfl)) dL_law_850 ⟨(by show _ + 0 ≤ 601024; omega), (by show _ + 0 ≤ 7293034; omega)⟩) hS (fun q _ h => hFc q h) hFc (fun r u t H1 locs ht hvm hw hB1 hz1 hk1 hS => ?_)
  obtain ⟨hPy, hKy, hDy⟩ := hB1
  rw [ht] at hPy
  obtain ⟨hP, hD⟩ := va_join (wr := WL cI cF cL h0 qy (if kFail a (xs (i + 1)) = 0 then sFail a (nn (xs (i + 1))) else a) jcy jsy jvy ky (capOf (nn ((if kFail a (xs (i + 1)) = 0 then sFail a (nn (xs (i + 1))) else a) 0 4))) qo fu) (w1 := WM cI cF cZ h1 q2 (if kFail a (xs (i + 1)) = 0 then sFail a (nn (xs (i + 1))) else a) (nI (kFail a (xs (i + 1))))) hP hD [27, 28, 29, 30, 31, 32, 33, 34, 35, 36, 37, 38, 39, 40, 41, 42, 43, 44, 45, 46, 47, 48] [0, 1, 2, 3, 4, 5, 6, 7, 8, 9, 10, 11, 12, 13, 14, 15, 16, 17, 18, 19, 20, 21, 22, 23, 24, 25, 26, 49] rfl rfl (by decide) (by decide) hk1 hFc hPy hDy
  have hP := hP.sub (ws' := WA cI cF cL cZ h0 qy (if kFail a (xs (i + 1)) = 0 then sFail a (nn (xs (i + 1))) else a) jcy jsy jvy ky (capOf (nn ((if kFail a (xs (i + 1)) = 0 then sFail a (nn (xs (i + 1))) else a) 0 4))) h1 q2 (if kFail a (xs (i + 1)) = 0 then sFail a (nn (xs (i + 1))) else a) (nI (kFail a (xs (i + 1)))) qo fu) [0, 1, 2, 3, 4, 5, 6, 7, 8, 9, 10, 11, 12, 13, 14, 15, 16, 17, 18, 19, 20, 21, 22, 23, 24, 25, 26, 28, 29, 30, 31, 32, 33, 34, 35, 36, 37, 38, 39, 40, 41, 42, 43, 44, 45, 46, 47, 48, 49, 27] rfl
  have hD := hD.sub (ws' := WA cI cF cL cZ h0 qy (if kFail a (xs (i + 1)) = 0 then sFail a (nn (xs (i + 1))) else a) jcy jsy jvy ky (capOf (nn ((if kFail a (xs (i + 1)) = 0 then sFail a (nn (xs (i + 1))) else a) 0 4))) h1 q2 (if kFail a (xs (i + 1)) = 0 then sFail a (nn (xs (i + 1))) else a) (nI (kFail a (xs (i + 1)))) qo fu) [0, 1, 2, 3, 4, 5, 6, 7, 8, 9, 10, 11, 12, 13, 14, 15, 16, 17, 18, 19, 20, 21, 22, 23, 24, 25, 26, 28, 29, 30, 31, 32, 33, 34, 35, 36, 37, 38, 39, 40, 41, 42, 43, 44, 45, 46, 47, 48, 49, 27] (by decide) rfl
  generalize H1 = H at hP hS ⊢
  refine y_topi (y := nI (kFail a (xs (i + 1)))) hw ?_
  refine lv_iload hx hb dL_law_853 (lv_at hl 1 rfl) ?_
  refine lv_icmp_eq (tgt := 860) hx hb dL_law_855 (by decide) (fun c_1 => ?_) (fun c_1 => ?_)
  · refine lv_iload hx hb dL_law_860 (lv_at hl 1 rfl) ?_
    refine lv_if_ne (tgt := 877) hx hb dL_law_862 (by decide) (fun c_2 => ?_) (fun c_2 => ?_)
    · refine lv_goto (tgt := 1294) hx hb dL_law_877 (by decide) ?_
      refine W.widen (k := cells + 1026) (n := slots + 6156) (by omega) (by omega) ?_
      exact K _ qy jcy jsy jvy ky _ _ _ _ _ hI1 hCy hP hD hS (lv_sub hl [2, 3, 4, 5, 6] rfl)
    · have hK0 : kFail a (xs (i + 1)) = 0 := by
        rcases kFail_r a (xs (i + 1)) with h9 | h9 | h9 <;> first | exact h9 | (rw [h9] at c_2; exact absurd c_2 (by decide))
      refine lv_aload_n hx hb dL_law_865 rfl (lv_at hl 3 rfl) ?_
      refine lv_iconst (v := 0) hx hb dL_law_866 (by decide) ?_
      refine y_lld hx hb hK hP 49 2 rfl rfl dL_law_867 ?_
      refine lv_iload hx hb dL_law_868 (lv_at hl 0 rfl) ?_
      refine lv_i2l (v := (rv).toInt64) hx hb dL_law_870 rfl ?_
      refine y_lcmp hx hb (by rw [hwL.2 hK0, hwR hK0]) dL_law_871 ?_
      refine lv_if_eq (tgt := 877) hx hb dL_law_872 (by decide) (fun c_3 => ?_) (fun c_3 => ?_)
      · refine lv_goto (tgt := 1294) hx hb dL_law_877 (by decide) ?_
        refine W.widen (k := cells + 1026) (n := slots + 6156) (by omega) (by omega) ?_
        exact K _ qy jcy jsy jvy ky _ _ _ _ _ hI1 hCy hP hD hS (lv_sub hl [2, 3, 4, 5, 6] rfl)
      · exact absurd rfl c_3
  · exact absurd rfl c_1
