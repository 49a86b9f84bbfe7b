set_option maxHeartbeats 4000000 in
set_option maxRecDepth 100000 in
theorem lc_refund {p : Program} {l : Launch} {e : Env} {s : State} {m : MethodId} {below : List Frame} {meth : Method} {c : Code} {Q : State → Prop} {b L i n : Nat} {xs : Nat → Int32} {dC : Nat → ClassId} {dI : Nat → Nat → Nat} {cI cF cL cZ : ClassId} {A : Nat → Prop} (hst : l.stackTraces = false) (hx : p.tables.exec = Jvm.exec) (hb : c.code = cL_law) (hml : c.maxLocals = 7) (hown : s.vm.findClass RL = some m.cls) (hts : ∀ w ∈ wsL_law, w.before #[Value.ref b] s = true) (hX : va_X b L xs s s.heap) (hbl : b < s.heap.size) (hbA : ¬ A b) (hA : ∀ q : Nat, s.heap.size ≤ q → A q) (hK : va_K (dC, dI) vwCl [(cI, .int), (cF, .float), (cL, .long), (cZ, .boolean)] s) (hV : okV A s) (hN : okN3 s) {a : yA} (hI : okA a n) (hn : n < 512) (hi : i + 3 < L) (hL : L ≤ 2048) {h0 h1 qo : Nat} {q q2 : Nat → Nat} {jc js jv : Nat → Int32} {k : Nat} {th : Int32} {fo : Nat → Int64} {H : Heap} {locs : List Loc} {cells slots : Nat} {ls : Array Slot} (hC : okC a jc js jv k) (hP : va_P (dC, dI) vwCl (WA cI cF cL cZ h0 q a jc js jv k (capOf (nn (a 0 4))) h1 q2 a th qo fo) H) (hD : va_D A (WA cI cF cL cZ h0 q a jc js jv k (capOf (nn (a 0 4))) h1 q2 a th qo fo)) (hS : va_S A s.heap H locs) (hl : lv_has ls 7 [(4, .int (nI i)), (3, .ref qo), (2, .ref h1), (1, .ref h0), (0, .ref b)]) (hc : cells ≤ 100 + 1026 * n) (hs : slots ≤ 9000 + 6156 * n) (K : ∀ (a1 : yA) (q1 : Nat → Nat) (jc1 js1 jv1 : Nat → Int32) (k1 : Nat) (th1 : Int32) (fo1 : Nat → Int64) (H1 : Heap) (locs1 : List Loc) (ls1 : Array Slot), okA a1 (n + 1) → okC a1 jc1 js1 jv1 k1 → va_P (dC, dI) vwCl (WA cI cF cL cZ h0 q1 a1 jc1 js1 jv1 k1 (capOf (nn (a1 0 4))) h1 q2 a1 th1 qo fo1) H1 → va_D A (WA cI cF cL cZ h0 q1 a1 jc1 js1 jv1 k1 (capOf (nn (a1 0 4))) h1 q2 a1 th1 qo fo1) → va_S A s.heap H1 locs1 → lv_has ls1 7 [(4, .int (nI i)), (3, .ref qo), (2, .ref h1), (1, .ref h0), (0, .ref b)] → W p l e room_1 s m #[Value.ref b] below meth c H1 locs1 (cells + 1026) (slots + 6156) Q (F0 m 1294 ls1 [])) : W p l e room_1 s m #[Value.ref b] below meth c H locs cells slots Q (F0 m 672 ls []) := by
  have hB := okA_B hI
  refine lv_aload_n hx hb dL_law_672 rfl (lv_at hl 3 rfl) ?_
  refine lv_aload_n hx hb dL_law_673 rfl (lv_at hl 4 rfl) ?_
  refine lv_iload hx hb dL_law_674 (lv_at hl 0 rfl) ?_
  refine lv_iconst (v := 1) hx hb dL_law_676 (by decide) ?_
  refine lv_iadd hx hb dL_law_677 ?_
  refine y_topi (y := nI (i + 1)) (by first | exact nI_1 i | exact nI_add i 1) ?_
  refine va_sld hx hb hX hbl hbA hS (vp_in_nI (by omega) (by omega)) dL_law_678 ?_
  refine y_topi (y := xs (i + 1)) (by rw [nI_clamp (by omega)]) ?_
  refine lv_aload_n hx hb dL_law_679 rfl (lv_at hl 4 rfl) ?_
  refine lv_iload hx hb dL_law_680 (lv_at hl 0 rfl) ?_
  refine lv_iconst (v := 2) hx hb dL_law_682 (by decide) ?_
  refine lv_iadd hx hb dL_law_683 ?_
  refine y_topi (y := nI (i + 2)) (by first | exact nI_1 i | exact nI_add i 2) ?_
  refine va_sld hx hb hX hbl hbA hS (vp_in_nI (by omega) (by omega)) dL_law_684 ?_
  refine y_topi (y := xs (i + 2)) (by rw [nI_clamp (by omega)]) ?_
  refine lv_aload_n hx hb dL_law_685 rfl (lv_at hl 4 rfl) ?_
  refine lv_iload hx hb dL_law_686 (lv_at hl 0 rfl) ?_
  refine lv_iconst (v := 3) hx hb dL_law_688 (by decide) ?_
  refine lv_iadd hx hb dL_law_689 ?_
  refine y_topi (y := nI (i + 3)) (by first | exact nI_1 i | exact nI_add i 3) ?_
  refine va_sld hx hb hX hbl hbA hS (vp_in_nI (by omega) (by omega)) dL_law_690 ?_
  refine y_topi (y := xs (i + 3)) (by rw [nI_clamp (by omega)]) ?_
  refine lv_if_eq (tgt := 698) hx hb dL_law_691 (by decide) (fun c_1 => ?_) (fun c_1 => ?_)
  · refine lv_iconst (v := 0) hx hb dL_law_698 (by decide) ?_
    refine lv_aload_n hx hb dL_law_699 rfl (lv_at hl 1 rfl) ?_
    have hPc := hP.sub (ws' := WL cI cF cL h0 q a jc js jv k (capOf (nn (a 0 4))) qo fo) [0, 1, 2, 3, 4, 5, 6, 7, 8, 9, 10, 11, 12, 13, 14, 15, 16, 17, 18, 19, 20, 21, 22, 23, 24, 25, 26, 49] rfl
    have hDc := hD.sub (ws' := WL cI cF cL h0 q a jc js jv k (capOf (nn (a 0 4))) qo fo) [0, 1, 2, 3, 4, 5, 6, 7, 8, 9, 10, 11, 12, 13, 14, 15, 16, 17, 18, 19, 20, 21, 22, 23, 24, 25, 26, 49] (by decide) rfl
    have hFc := va_free (wc := WL cI cF cL h0 q a jc js jv k (capOf (nn (a 0 4))) qo fo) hD hS hA [0, 1, 2, 3, 4, 5, 6, 7, 8, 9, 10, 11, 12, 13, 14, 15, 16, 17, 18, 19, 20, 21, 22, 23, 24, 25, 26, 49] rfl
    have hKc := hK.sub (tys' := [(cI, .int), (cF, .float), (cL, .long)]) [0, 1, 2] rfl
    refine va_calli (vx_runSW (As := [.ref h0, .int (xs (i + 1)), .int (xs (i + 2)), .int 0, .ref qo]) (rest := []) ⟨hx, hb, hml, hown, hts⟩ (c_L_refund l dC dI cI cF cL h0 qo q H.size a jc js jv k fo hst hC hB (xs (i + 1)) (xs (i + 2)) (0 : Int32)) (vx_cwSW 5 hts gL_law_L_refund rfl rfl rfl (by decide +kernel) ⟨Nat.le_of_ble_eq_true rfl, Nat.le_of_ble_eq_true rfl⟩) ⟨pcH_blind, fun U hU hW => pcH_pre hPc hDc hKc hV hN hS hFc hU hW⟩ rfl rfl hl.1 rfl (lv_room (Nat.le_of_ble_eq_true rfl)) dL_law_700 ⟨(by show cells + (2) ≤ 601024; omega), (by show slots + (12) ≤ 7293034; omega)⟩) hS (fun q _ h => hFc q h) hFc (fun r fu t H1 locs ht hvm hw hB1 hz1 hk1 hS => ?_)
    obtain ⟨qy, jcy, jsy, jvy, ky, hCy, hPy, hKy, hDy⟩ := hB1
    rw [ht] at hPy
    have hwL := hw
    obtain ⟨hP, hD⟩ := va_join (wr := (WM cI cF cZ h1 q2 a th)) (w1 := WL cI cF cL h0 qy (if kRef a (xs (i + 1)) (xs (i + 2)) = 0 then sRefund a (nn (xs (i + 1))) (xs (i + 2)) (decide (¬ (0 : Int32) = 0)) else a) jcy jsy jvy ky (capOf (nn ((if kRef a (xs (i + 1)) (xs (i + 2)) = 0 then sRefund a (nn (xs (i + 1))) (xs (i + 2)) (decide (¬ (0 : Int32) = 0)) else a) 0 4))) qo fu) hP hD [0, 1, 2, 3, 4, 5, 6, 7, 8, 9, 10, 11, 12, 13, 14, 15, 16, 17, 18, 19, 20, 21, 22, 23, 24, 25, 26, 49] [27, 28, 29, 30, 31, 32, 33, 34, 35, 36, 37, 38, 39, 40, 41, 42, 43, 44, 45, 46, 47, 48] rfl rfl (by decide) (by decide) hk1 hFc hPy hDy
    have hP := hP.sub (ws' := WA cI cF cL cZ h0 qy (if kRef a (xs (i + 1)) (xs (i + 2)) = 0 then sRefund a (nn (xs (i + 1))) (xs (i + 2)) (decide (¬ (0 : Int32) = 0)) else a) jcy jsy jvy ky (capOf (nn ((if kRef a (xs (i + 1)) (xs (i + 2)) = 0 then sRefund a (nn (xs (i + 1))) (xs (i + 2)) (decide (¬ (0 : Int32) = 0)) else a) 0 4))) h1 q2 a th qo fu) [22, 23, 24, 25, 26, 27, 28, 29, 30, 31, 32, 33, 34, 35, 36, 37, 38, 39, 40, 41, 42, 43, 44, 45, 46, 47, 48, 0, 1, 2, 3, 4, 5, 6, 7, 8, 9, 10, 11, 12, 13, 14, 15, 16, 17, 18, 19, 20, 21, 49] rfl
    have hD := hD.sub (ws' := WA cI cF cL cZ h0 qy (if kRef a (xs (i + 1)) (xs (i + 2)) = 0 then sRefund a (nn (xs (i + 1))) (xs (i + 2)) (decide (¬ (0 : Int32) = 0)) else a) jcy jsy jvy ky (capOf (nn ((if kRef a (xs (i + 1)) (xs (i + 2)) = 0 then sRefund a (nn (xs (i + 1))) (xs (i + 2)) (decide (¬ (0 : Int32) = 0)) else a) 0 4))) h1 q2 a th qo fu) [22, 23, 24, 25, 26, 27, 28, 29, 30, 31, 32, 33, 34, 35, 36, 37, 38, 39, 40, 41, 42, 43, 44, 45, 46, 47, 48, 0, 1, 2, 3, 4, 5, 6, 7, 8, 9, 10, 11, 12, 13, 14, 15, 16, 17, 18, 19, 20, 21, 49] (by decide) rfl
    generalize H1 = H at hP hS ⊢
    refine y_topi (y := nI (kRef a (xs (i + 1)) (xs (i + 2)))) hwL.1 ?_
    have hI1 : okA (if kRef a (xs (i + 1)) (xs (i + 2)) = 0 then sRefund a (nn (xs (i + 1))) (xs (i + 2)) (decide (¬ (0 : Int32) = 0)) else a) (n + 1) := by
      split
      · next h9 => exact okA_refund hI hn _ h9
      · exact okA_up hI hn
    have hB1 := okA_B hI1
    refine lv_istore (lv' := [(5, .int (nI (kRef a (xs (i + 1)) (xs (i + 2))))), (4, .int (nI i)), (3, .ref qo), (2, .ref h1), (1, .ref h0), (0, .ref b)]) hx hb dL_law_703 hl (by decide) rfl (fun ls hl => ?_)
    refine lv_aload_n hx hb dL_law_705 rfl (lv_at hl 3 rfl) ?_
    refine lv_aload_n hx hb dL_law_706 rfl (lv_at hl 5 rfl) ?_
    refine lv_iload hx hb dL_law_707 (lv_at hl 1 rfl) ?_
    refine lv_iconst (v := 1) hx hb dL_law_709 (by decide) ?_
    refine lv_iadd hx hb dL_law_710 ?_
    refine y_topi (y := nI (i + 1)) (by first | exact nI_1 i | exact nI_add i 1) ?_
    refine va_sld hx hb hX hbl hbA hS (vp_in_nI (by omega) (by omega)) dL_law_711 ?_
    refine y_topi (y := xs (i + 1)) (by rw [nI_clamp (by omega)]) ?_
    refine lv_aload_n hx hb dL_law_712 rfl (lv_at hl 5 rfl) ?_
    refine lv_iload hx hb dL_law_713 (lv_at hl 1 rfl) ?_
    refine lv_iconst (v := 2) hx hb dL_law_715 (by decide) ?_
    refine lv_iadd hx hb dL_law_716 ?_
    refine y_topi (y := nI (i + 2)) (by first | exact nI_1 i | exact nI_add i 2) ?_
    refine va_sld hx hb hX hbl hbA hS (vp_in_nI (by omega) (by omega)) dL_law_717 ?_
    refine y_topi (y := xs (i + 2)) (by rw [nI_clamp (by omega)]) ?_
    refine lv_aload_n hx hb dL_law_718 rfl (lv_at hl 5 rfl) ?_
    refine lv_iload hx hb dL_law_719 (lv_at hl 1 rfl) ?_
    refine lv_iconst (v := 3) hx hb dL_law_721 (by decide) ?_
    refine lv_iadd hx hb dL_law_722 ?_
    refine y_topi (y := nI (i + 3)) (by first | exact nI_1 i | exact nI_add i 3) ?_
    refine va_sld hx hb hX hbl hbA hS (vp_in_nI (by omega) (by omega)) dL_law_723 ?_
    refine y_topi (y := xs (i + 3)) (by rw [nI_clamp (by omega)]) ?_
    refine lv_if_eq (tgt := 731) hx hb dL_law_724 (by decide) (fun c_2 => ?_) (fun c_2 => ?_)
    · refine lv_iconst (v := 0) hx hb dL_law_731 (by decide) ?_
      have hPc := hP.sub (ws' := WM cI cF cZ h1 q2 a th) [27, 28, 29, 30, 31, 32, 33, 34, 35, 36, 37, 38, 39, 40, 41, 42, 43, 44, 45, 46, 47, 48] rfl
      have hDc := hD.sub (ws' := WM cI cF cZ h1 q2 a th) [27, 28, 29, 30, 31, 32, 33, 34, 35, 36, 37, 38, 39, 40, 41, 42, 43, 44, 45, 46, 47, 48] (by decide) rfl
      have hFc := va_free (wc := WM cI cF cZ h1 q2 a th) hD hS hA [27, 28, 29, 30, 31, 32, 33, 34, 35, 36, 37, 38, 39, 40, 41, 42, 43, 44, 45, 46, 47, 48] rfl
      have hKc := hK.sub (tys' := [(cI, .int), (cF, .float), (cZ, .boolean)]) [0, 1, 3] rfl
      refine va_calli (va_runV (As := [.int (xs (i + 1)), .int (xs (i + 2)), .int 0]) (rest := []) ⟨hx, hb, hml, hown, hts⟩ (c_X5_refund l dC dI cI cF cZ h1 q2 H.size a th hB hI.2.2.1 (xs (i + 1)) (xs (i + 2)) (0 : Int32)) (cwV 3 hts gL_law_X5_refund rfl rfl rfl (by decide +kernel) ⟨Nat.le_of_ble_eq_true rfl, Nat.le_of_ble_eq_true rfl⟩) ⟨pcW_blind, va_recv hKc hPc (ci := 5) (q0 := 0) rfl rfl, fun U hU hW => pcW_pre hPc hDc hKc hU hW⟩ rfl rfl hl.1 rfl (lv_room (Nat.le_of_ble_eq_true rfl)) dL_law_732 ⟨(by show _ + 0 ≤ 601024; omega), (by show _ + 0 ≤ 7293034; omega)⟩) hS (fun q _ h => hFc q h) hFc (fun r u t H1 locs ht hvm hw hB1 hz1 hk1 hS => ?_)
      obtain ⟨hPy, hKy, hDy⟩ := hB1
      rw [ht] at hPy
      obtain ⟨hP, hD⟩ := va_join (wr := WL cI cF cL h0 qy (if kRef a (xs (i + 1)) (xs (i + 2)) = 0 then sRefund a (nn (xs (i + 1))) (xs (i + 2)) (decide (¬ (0 : Int32) = 0)) else a) jcy jsy jvy ky (capOf (nn ((if kRef a (xs (i + 1)) (xs (i + 2)) = 0 then sRefund a (nn (xs (i + 1))) (xs (i + 2)) (decide (¬ (0 : Int32) = 0)) else a) 0 4))) qo fu) (w1 := WM cI cF cZ h1 q2 (if kRef a (xs (i + 1)) (xs (i + 2)) = 0 then sRefund a (nn (xs (i + 1))) (xs (i + 2)) (decide (¬ (0 : Int32) = 0)) else a) (nI (kRef a (xs (i + 1)) (xs (i + 2))))) hP hD [27, 28, 29, 30, 31, 32, 33, 34, 35, 36, 37, 38, 39, 40, 41, 42, 43, 44, 45, 46, 47, 48] [0, 1, 2, 3, 4, 5, 6, 7, 8, 9, 10, 11, 12, 13, 14, 15, 16, 17, 18, 19, 20, 21, 22, 23, 24, 25, 26, 49] rfl rfl (by decide) (by decide) hk1 hFc hPy hDy
      have hP := hP.sub (ws' := WA cI cF cL cZ h0 qy (if kRef a (xs (i + 1)) (xs (i + 2)) = 0 then sRefund a (nn (xs (i + 1))) (xs (i + 2)) (decide (¬ (0 : Int32) = 0)) else a) jcy jsy jvy ky (capOf (nn ((if kRef a (xs (i + 1)) (xs (i + 2)) = 0 then sRefund a (nn (xs (i + 1))) (xs (i + 2)) (decide (¬ (0 : Int32) = 0)) else a) 0 4))) h1 q2 (if kRef a (xs (i + 1)) (xs (i + 2)) = 0 then sRefund a (nn (xs (i + 1))) (xs (i + 2)) (decide (¬ (0 : Int32) = 0)) else a) (nI (kRef a (xs (i + 1)) (xs (i + 2)))) qo fu) [0, 1, 2, 3, 4, 5, 6, 7, 8, 9, 10, 11, 12, 13, 14, 15, 16, 17, 18, 19, 20, 21, 22, 23, 24, 25, 26, 28, 29, 30, 31, 32, 33, 34, 35, 36, 37, 38, 39, 40, 41, 42, 43, 44, 45, 46, 47, 48, 49, 27] rfl
      have hD := hD.sub (ws' := WA cI cF cL cZ h0 qy (if kRef a (xs (i + 1)) (xs (i + 2)) = 0 then sRefund a (nn (xs (i + 1))) (xs (i + 2)) (decide (¬ (0 : Int32) = 0)) else a) jcy jsy jvy ky (capOf (nn ((if kRef a (xs (i + 1)) (xs (i + 2)) = 0 then sRefund a (nn (xs (i + 1))) (xs (i + 2)) (decide (¬ (0 : Int32) = 0)) else a) 0 4))) h1 q2 (if kRef a (xs (i + 1)) (xs (i + 2)) = 0 then sRefund a (nn (xs (i + 1))) (xs (i + 2)) (decide (¬ (0 : Int32) = 0)) else a) (nI (kRef a (xs (i + 1)) (xs (i + 2)))) qo fu) [0, 1, 2, 3, 4, 5, 6, 7, 8, 9, 10, 11, 12, 13, 14, 15, 16, 17, 18, 19, 20, 21, 22, 23, 24, 25, 26, 28, 29, 30, 31, 32, 33, 34, 35, 36, 37, 38, 39, 40, 41, 42, 43, 44, 45, 46, 47, 48, 49, 27] (by decide) rfl
      generalize H1 = H at hP hS ⊢
      have hwR := hw
      obtain ⟨rv, erv⟩ : ∃ z, z = r := ⟨_, rfl⟩
      rw [← erv] at hwR ⊢
      refine lv_istore (lv' := [(6, .int rv), (5, .int (nI (kRef a (xs (i + 1)) (xs (i + 2))))), (4, .int (nI i)), (3, .ref qo), (2, .ref h1), (1, .ref h0), (0, .ref b)]) hx hb dL_law_735 hl (by decide) rfl (fun ls hl => ?_)
      refine lv_aload_n hx hb dL_law_737 rfl (lv_at hl 4 rfl) ?_
      have hPc := hP.sub (ws' := WM cI cF cZ h1 q2 (if kRef a (xs (i + 1)) (xs (i + 2)) = 0 then sRefund a (nn (xs (i + 1))) (xs (i + 2)) (decide (¬ (0 : Int32) = 0)) else a) (nI (kRef a (xs (i + 1)) (xs (i + 2))))) [27, 28, 29, 30, 31, 32, 33, 34, 35, 36, 37, 38, 39, 40, 41, 42, 43, 44, 45, 46, 47, 48] rfl
      have hDc := hD.sub (ws' := WM cI cF cZ h1 q2 (if kRef a (xs (i + 1)) (xs (i + 2)) = 0 then sRefund a (nn (xs (i + 1))) (xs (i + 2)) (decide (¬ (0 : Int32) = 0)) else a) (nI (kRef a (xs (i + 1)) (xs (i + 2))))) [27, 28, 29, 30, 31, 32, 33, 34, 35, 36, 37, 38, 39, 40, 41, 42, 43, 44, 45, 46, 47, 48] (by decide) rfl
      have hFc := va_free (wc := WM cI cF cZ h1 q2 (if kRef a (xs (i + 1)) (xs (i + 2)) = 0 then sRefund a (nn (xs (i + 1))) (xs (i + 2)) (decide (¬ (0 : Int32) = 0)) else a) (nI (kRef a (xs (i + 1)) (xs (i + 2))))) hD hS hA [27, 28, 29, 30, 31, 32, 33, 34, 35, 36, 37, 38, 39, 40, 41, 42, 43, 44, 45, 46, 47, 48] rfl
      have hKc := hK.sub (tys' := [(cI, .int), (cF, .float), (cZ, .boolean)]) [0, 1, 3] rfl
      refine va_calli (va_runV (As := []) (rest := []) ⟨hx, hb, hml, hown, hts⟩ (c_X5_thrown l dC dI cI cF cZ h1 q2 H.size (if kRef a (xs (i + 1)) (xs (i + 2)) = 0 then sRefund a (nn (xs (i + 1))) (xs (i + 2)) (decide (¬ (0 : Int32) = 0)) else a) (nI (kRef a (xs (i + 1)) (xs (i + 2)))) hB1) (cwV 0 hts gL_law_X5_thrown rfl rfl rfl (by decide +kernel) ⟨Nat.le_of_ble_eq_true rfl, Nat.le_of_ble_eq_true rfl⟩) ⟨pcW_blind, va_recv hKc hPc (ci := 5) (q0 := 0) rfl rfl, fun U hU hW => pcW_pre hPc hDc hKc hU hW⟩ rfl rfl hl.1 rfl (lv_room (Nat.le_of_ble_eq_true rfl)) dL_law_738 ⟨(by show _ + 0 ≤ 601024; omega), (by show _ + 0 ≤ 7293034; omega)⟩) hS (fun q _ h => hFc q h) hFc (fun r u t H1 locs ht hvm hw hB1 hz1 hk1 hS => ?_)
      obtain ⟨hPy, hKy, hDy⟩ := hB1
      rw [ht] at hPy
      obtain ⟨hP, hD⟩ := va_join (wr := WL cI cF cL h0 qy (if kRef a (xs (i + 1)) (xs (i + 2)) = 0 then sRefund a (nn (xs (i + 1))) (xs (i + 2)) (decide (¬ (0 : Int32) = 0)) else a) jcy jsy jvy ky (capOf (nn ((if kRef a (xs (i + 1)) (xs (i + 2)) = 0 then sRefund a (nn (xs (i + 1))) (xs (i + 2)) (decide (¬ (0 : Int32) = 0)) else a) 0 4))) qo fu) (w1 := WM cI cF cZ h1 q2 (if kRef a (xs (i + 1)) (xs (i + 2)) = 0 then sRefund a (nn (xs (i + 1))) (xs (i + 2)) (decide (¬ (0 : Int32) = 0)) else a) (nI (kRef a (xs (i + 1)) (xs (i + 2))))) hP hD [27, 28, 29, 30, 31, 32, 33, 34, 35, 36, 37, 38, 39, 40, 41, 42, 43, 44, 45, 46, 47, 48] [0, 1, 2, 3, 4, 5, 6, 7, 8, 9, 10, 11, 12, 13, 14, 15, 16, 17, 18, 19, 20, 21, 22, 23, 24, 25, 26, 49] rfl rfl (by decide) (by decide) hk1 hFc hPy hDy
      have hP := hP.sub (ws' := WA cI cF cL cZ h0 qy (if kRef a (xs (i + 1)) (xs (i + 2)) = 0 then sRefund a (nn (xs (i + 1))) (xs (i + 2)) (decide (¬ (0 : Int32) = 0)) else a) jcy jsy jvy ky (capOf (nn ((if kRef a (xs (i + 1)) (xs (i + 2)) = 0 then sRefund a (nn (xs (i + 1))) (xs (i + 2)) (decide (¬ (0 : Int32) = 0)) else a) 0 4))) h1 q2 (if kRef a (xs (i + 1)) (xs (i + 2)) = 0 then sRefund a (nn (xs (i + 1))) (xs (i + 2)) (decide (¬ (0 : Int32) = 0)) else a) (nI (kRef a (xs (i + 1)) (xs (i + 2)))) qo fu) [0, 1, 2, 3, 4, 5, 6, 7, 8, 9, 10, 11, 12, 13, 14, 15, 16, 17, 18, 19, 20, 21, 22, 23, 24, 25, 26, 28, 29, 30, 31, 32, 33, 34, 35, 36, 37, 38, 39, 40, 41, 42, 43, 44, 45, 46, 47, 48, 49, 27] rfl
      have hD := hD.sub (ws' := WA cI cF cL cZ h0 qy (if kRef a (xs (i + 1)) (xs (i + 2)) = 0 then sRefund a (nn (xs (i + 1))) (xs (i + 2)) (decide (¬ (0 : Int32) = 0)) else a) jcy jsy jvy ky (capOf (nn ((if kRef a (xs (i + 1)) (xs (i + 2)) = 0 then sRefund a (nn (xs (i + 1))) (xs (i + 2)) (decide (¬ (0 : Int32) = 0)) else a) 0 4))) h1 q2 (if kRef a (xs (i + 1)) (xs (i + 2)) = 0 then sRefund a (nn (xs (i + 1))) (xs (i + 2)) (decide (¬ (0 : Int32) = 0)) else a) (nI (kRef a (xs (i + 1)) (xs (i + 2)))) qo fu) [0, 1, 2, 3, 4, 5, 6, 7, 8, 9, 10, 11, 12, 13, 14, 15, 16, 17, 18, 19, 20, 21, 22, 23, 24, 25, 26, 28, 29, 30, 31, 32, 33, 34, 35, 36, 37, 38, 39, 40, 41, 42, 43, 44, 45, 46, 47, 48, 49, 27] (by decide) rfl
      generalize H1 = H at hP hS ⊢
      refine y_topi (y := nI (kRef a (xs (i + 1)) (xs (i + 2)))) hw ?_
      refine lv_iload hx hb dL_law_741 (lv_at hl 1 rfl) ?_
      refine lv_icmp_eq (tgt := 748) hx hb dL_law_743 (by decide) (fun c_3 => ?_) (fun c_3 => ?_)
      · refine lv_iload hx hb dL_law_748 (lv_at hl 1 rfl) ?_
        refine lv_if_ne (tgt := 765) hx hb dL_law_750 (by decide) (fun c_4 => ?_) (fun c_4 => ?_)
        · refine lv_goto (tgt := 1294) hx hb dL_law_765 (by decide) ?_
          refine W.widen (k := cells + 1026) (n := slots + 6156) (by omega) (by omega) ?_
          exact K _ qy jcy jsy jvy ky _ _ _ _ _ hI1 hCy hP hD hS (lv_sub hl [2, 3, 4, 5, 6] rfl)
        · have hK0 : kRef a (xs (i + 1)) (xs (i + 2)) = 0 := by
            rcases kRef_r a (xs (i + 1)) (xs (i + 2)) with h9 | h9 | h9 | h9 <;> first | exact h9 | (rw [h9] at c_4; exact absurd c_4 (by decide))
          refine lv_aload_n hx hb dL_law_753 rfl (lv_at hl 3 rfl) ?_
          refine lv_iconst (v := 0) hx hb dL_law_754 (by decide) ?_
          refine y_lld hx hb hK hP 49 2 rfl rfl dL_law_755 ?_
          refine lv_iload hx hb dL_law_756 (lv_at hl 0 rfl) ?_
          refine lv_i2l (v := (rv).toInt64) hx hb dL_law_758 rfl ?_
          refine y_lcmp hx hb (by rw [hwL.2 hK0, hwR hK0]) dL_law_759 ?_
          refine lv_if_eq (tgt := 765) hx hb dL_law_760 (by decide) (fun c_5 => ?_) (fun c_5 => ?_)
          · refine lv_goto (tgt := 1294) hx hb dL_law_765 (by decide) ?_
            refine W.widen (k := cells + 1026) (n := slots + 6156) (by omega) (by omega) ?_
            exact K _ qy jcy jsy jvy ky _ _ _ _ _ hI1 hCy hP hD hS (lv_sub hl [2, 3, 4, 5, 6] rfl)
          · exact absurd rfl c_5
      · exact absurd rfl c_3
    · exact absurd c_1 c_2
  · refine lv_iconst (v := 1) hx hb dL_law_694 (by decide) ?_
    refine lv_goto (tgt := 699) hx hb dL_law_695 (by decide) ?_
    refine lv_aload_n hx hb dL_law_699 rfl (lv_at hl 1 rfl) ?_
    have hPc := hP.sub (ws' := WL cI cF cL h0 q a jc js jv k (capOf (nn (a 0 4))) qo fo) [0, 1, 2, 3, 4, 5, 6, 7, 8, 9, 10, 11, 12, 13, 14, 15, 16, 17, 18, 19, 20, 21, 22, 23, 24, 25, 26, 49] rfl
    have hDc := hD.sub (ws' := WL cI cF cL h0 q a jc js jv k (capOf (nn (a 0 4))) qo fo) [0, 1, 2, 3, 4, 5, 6, 7, 8, 9, 10, 11, 12, 13, 14, 15, 16, 17, 18, 19, 20, 21, 22, 23, 24, 25, 26, 49] (by decide) rfl
    have hFc := va_free (wc := WL cI cF cL h0 q a jc js jv k (capOf (nn (a 0 4))) qo fo) hD hS hA [0, 1, 2, 3, 4, 5, 6, 7, 8, 9, 10, 11, 12, 13, 14, 15, 16, 17, 18, 19, 20, 21, 22, 23, 24, 25, 26, 49] rfl
    have hKc := hK.sub (tys' := [(cI, .int), (cF, .float), (cL, .long)]) [0, 1, 2] rfl
    refine va_calli (vx_runSW (As := [.ref h0, .int (xs (i + 1)), .int (xs (i + 2)), .int 1, .ref qo]) (rest := []) ⟨hx, hb, hml, hown, hts⟩ (c_L_refund l dC dI cI cF cL h0 qo q H.size a jc js jv k fo hst hC hB (xs (i + 1)) (xs (i + 2)) (1 : Int32)) (vx_cwSW 5 hts gL_law_L_refund rfl rfl rfl (by decide +kernel) ⟨Nat.le_of_ble_eq_true rfl, Nat.le_of_ble_eq_true rfl⟩) ⟨pcH_blind, fun U hU hW => pcH_pre hPc hDc hKc hV hN hS hFc hU hW⟩ rfl rfl hl.1 rfl (lv_room (Nat.le_of_ble_eq_true rfl)) dL_law_700 ⟨(by show cells + (2) ≤ 601024; omega), (by show slots + (12) ≤ 7293034; omega)⟩) hS (fun q _ h => hFc q h) hFc (fun r fu t H1 locs ht hvm hw hB1 hz1 hk1 hS => ?_)
    obtain ⟨qy, jcy, jsy, jvy, ky, hCy, hPy, hKy, hDy⟩ := hB1
    rw [ht] at hPy
    have hwL := hw
    obtain ⟨hP, hD⟩ := va_join (wr := (WM cI cF cZ h1 q2 a th)) (w1 := WL cI cF cL h0 qy (if kRef a (xs (i + 1)) (xs (i + 2)) = 0 then sRefund a (nn (xs (i + 1))) (xs (i + 2)) (decide (¬ (1 : Int32) = 0)) else a) jcy jsy jvy ky (capOf (nn ((if kRef a (xs (i + 1)) (xs (i + 2)) = 0 then sRefund a (nn (xs (i + 1))) (xs (i + 2)) (decide (¬ (1 : Int32) = 0)) else a) 0 4))) qo fu) hP hD [0, 1, 2, 3, 4, 5, 6, 7, 8, 9, 10, 11, 12, 13, 14, 15, 16, 17, 18, 19, 20, 21, 22, 23, 24, 25, 26, 49] [27, 28, 29, 30, 31, 32, 33, 34, 35, 36, 37, 38, 39, 40, 41, 42, 43, 44, 45, 46, 47, 48] rfl rfl (by decide) (by decide) hk1 hFc hPy hDy
    have hP := hP.sub (ws' := WA cI cF cL cZ h0 qy (if kRef a (xs (i + 1)) (xs (i + 2)) = 0 then sRefund a (nn (xs (i + 1))) (xs (i + 2)) (decide (¬ (1 : Int32) = 0)) else a) jcy jsy jvy ky (capOf (nn ((if kRef a (xs (i + 1)) (xs (i + 2)) = 0 then sRefund a (nn (xs (i + 1))) (xs (i + 2)) (decide (¬ (1 : Int32) = 0)) else a) 0 4))) h1 q2 a th qo fu) [22, 23, 24, 25, 26, 27, 28, 29, 30, 31, 32, 33, 34, 35, 36, 37, 38, 39, 40, 41, 42, 43, 44, 45, 46, 47, 48, 0, 1, 2, 3, 4, 5, 6, 7, 8, 9, 10, 11, 12, 13, 14, 15, 16, 17, 18, 19, 20, 21, 49] rfl
    have hD := hD.sub (ws' := WA cI cF cL cZ h0 qy (if kRef a (xs (i + 1)) (xs (i + 2)) = 0 then sRefund a (nn (xs (i + 1))) (xs (i + 2)) (decide (¬ (1 : Int32) = 0)) else a) jcy jsy jvy ky (capOf (nn ((if kRef a (xs (i + 1)) (xs (i + 2)) = 0 then sRefund a (nn (xs (i + 1))) (xs (i + 2)) (decide (¬ (1 : Int32) = 0)) else a) 0 4))) h1 q2 a th qo fu) [22, 23, 24, 25, 26, 27, 28, 29, 30, 31, 32, 33, 34, 35, 36, 37, 38, 39, 40, 41, 42, 43, 44, 45, 46, 47, 48, 0, 1, 2, 3, 4, 5, 6, 7, 8, 9, 10, 11, 12, 13, 14, 15, 16, 17, 18, 19, 20, 21, 49] (by decide) rfl
    generalize H1 = H at hP hS ⊢
    refine y_topi (y := nI (kRef a (xs (i + 1)) (xs (i + 2)))) hwL.1 ?_
    have hI1 : okA (if kRef a (xs (i + 1)) (xs (i + 2)) = 0 then sRefund a (nn (xs (i + 1))) (xs (i + 2)) (decide (¬ (1 : Int32) = 0)) else a) (n + 1) := by
      split
      · next h9 => exact okA_refund hI hn _ h9
      · exact okA_up hI hn
    have hB1 := okA_B hI1
    refine lv_istore (lv' := [(5, .int (nI (kRef a (xs (i + 1)) (xs (i + 2))))), (4, .int (nI i)), (3, .ref qo), (2, .ref h1), (1, .ref h0), (0, .ref b)]) hx hb dL_law_703 hl (by decide) rfl (fun ls hl => ?_)
    refine lv_aload_n hx hb dL_law_705 rfl (lv_at hl 3 rfl) ?_
    refine lv_aload_n hx hb dL_law_706 rfl (lv_at hl 5 rfl) ?_
    refine lv_iload hx hb dL_law_707 (lv_at hl 1 rfl) ?_
    refine lv_iconst (v := 1) hx hb dL_law_709 (by decide) ?_
    refine lv_iadd hx hb dL_law_710 ?_
    refine y_topi (y := nI (i + 1)) (by first | exact nI_1 i | exact nI_add i 1) ?_
    refine va_sld hx hb hX hbl hbA hS (vp_in_nI (by omega) (by omega)) dL_law_711 ?_
    refine y_topi (y := xs (i + 1)) (by rw [nI_clamp (by omega)]) ?_
    refine lv_aload_n hx hb dL_law_712 rfl (lv_at hl 5 rfl) ?_
    refine lv_iload hx hb dL_law_713 (lv_at hl 1 rfl) ?_
    refine lv_iconst (v := 2) hx hb dL_law_715 (by decide) ?_
    refine lv_iadd hx hb dL_law_716 ?_
    refine y_topi (y := nI (i + 2)) (by first | exact nI_1 i | exact nI_add i 2) ?_
    refine va_sld hx hb hX hbl hbA hS (vp_in_nI (by omega) (by omega)) dL_law_717 ?_
    refine y_topi (y := xs (i + 2)) (by rw [nI_clamp (by omega)]) ?_
    refine lv_aload_n hx hb dL_law_718 rfl (lv_at hl 5 rfl) ?_
    refine lv_iload hx hb dL_law_719 (lv_at hl 1 rfl) ?_
    refine lv_iconst (v := 3) hx hb dL_law_721 (by decide) ?_
    refine lv_iadd hx hb dL_law_722 ?_
    refine y_topi (y := nI (i + 3)) (by first | exact nI_1 i | exact nI_add i 3) ?_
    refine va_sld hx hb hX hbl hbA hS (vp_in_nI (by omega) (by omega)) dL_law_723 ?_
    refine y_topi (y := xs (i + 3)) (by rw [nI_clamp (by omega)]) ?_
    refine lv_if_eq (tgt := 731) hx hb dL_law_724 (by decide) (fun c_6 => ?_) (fun c_6 => ?_)
    · exact absurd c_6 c_1
    · refine lv_iconst (v := 1) hx hb dL_law_727 (by decide) ?_
      refine lv_goto (tgt := 732) hx hb dL_law_728 (by decide) ?_
      have hPc := hP.sub (ws' := WM cI cF cZ h1 q2 a th) [27, 28, 29, 30, 31, 32, 33, 34, 35, 36, 37, 38, 39, 40, 41, 42, 43, 44, 45, 46, 47, 48] rfl
      have hDc := hD.sub (ws' := WM cI cF cZ h1 q2 a th) [27, 28, 29, 30, 31, 32, 33, 34, 35, 36, 37, 38, 39, 40, 41, 42, 43, 44, 45, 46, 47, 48] (by decide) rfl
      have hFc := va_free (wc := WM cI cF cZ h1 q2 a th) hD hS hA [27, 28, 29, 30, 31, 32, 33, 34, 35, 36, 37, 38, 39, 40, 41, 42, 43, 44, 45, 46, 47, 48] rfl
      have hKc := hK.sub (tys' := [(cI, .int), (cF, .float), (cZ, .boolean)]) [0, 1, 3] rfl
      refine va_calli (va_runV (As := [.int (xs (i + 1)), .int (xs (i + 2)), .int 1]) (rest := []) ⟨hx, hb, hml, hown, hts⟩ (c_X5_refund l dC dI cI cF cZ h1 q2 H.size a th hB hI.2.2.1 (xs (i + 1)) (xs (i + 2)) (1 : Int32)) (cwV 3 hts gL_law_X5_refund rfl rfl rfl (by decide +kernel) ⟨Nat.le_of_ble_eq_true rfl, Nat.le_of_ble_eq_true rfl⟩) ⟨pcW_blind, va_recv hKc hPc (ci := 5) (q0 := 0) rfl rfl, fun U hU hW => pcW_pre hPc hDc hKc hU hW⟩ rfl rfl hl.1 rfl (lv_room (Nat.le_of_ble_eq_true rfl)) dL_law_732 ⟨(by show _ + 0 ≤ 601024; omega), (by show _ + 0 ≤ 7293034; omega)⟩) hS (fun q _ h => hFc q h) hFc (fun r u t H1 locs ht hvm hw hB1 hz1 hk1 hS => ?_)
      obtain ⟨hPy, hKy, hDy⟩ := hB1
      rw [ht] at hPy
      obtain ⟨hP, hD⟩ := va_join (wr := WL cI cF cL h0 qy (if kRef a (xs (i + 1)) (xs (i + 2)) = 0 then sRefund a (nn (xs (i + 1))) (xs (i + 2)) (decide (¬ (1 : Int32) = 0)) else a) jcy jsy jvy ky (capOf (nn ((if kRef a (xs (i + 1)) (xs (i + 2)) = 0 then sRefund a (nn (xs (i + 1))) (xs (i + 2)) (decide (¬ (1 : Int32) = 0)) else a) 0 4))) qo fu) (w1 := WM cI cF cZ h1 q2 (if kRef a (xs (i + 1)) (xs (i + 2)) = 0 then sRefund a (nn (xs (i + 1))) (xs (i + 2)) (decide (¬ (1 : Int32) = 0)) else a) (nI (kRef a (xs (i + 1)) (xs (i + 2))))) hP hD [27, 28, 29, 30, 31, 32, 33, 34, 35, 36, 37, 38, 39, 40, 41, 42, 43, 44, 45, 46, 47, 48] [0, 1, 2, 3, 4, 5, 6, 7, 8, 9, 10, 11, 12, 13, 14, 15, 16, 17, 18, 19, 20, 21, 22, 23, 24, 25, 26, 49] rfl rfl (by decide) (by decide) hk1 hFc hPy hDy
      have hP := hP.sub (ws' := WA cI cF cL cZ h0 qy (if kRef a (xs (i + 1)) (xs (i + 2)) = 0 then sRefund a (nn (xs (i + 1))) (xs (i + 2)) (decide (¬ (1 : Int32) = 0)) else a) jcy jsy jvy ky (capOf (nn ((if kRef a (xs (i + 1)) (xs (i + 2)) = 0 then sRefund a (nn (xs (i + 1))) (xs (i + 2)) (decide (¬ (1 : Int32) = 0)) else a) 0 4))) h1 q2 (if kRef a (xs (i + 1)) (xs (i + 2)) = 0 then sRefund a (nn (xs (i + 1))) (xs (i + 2)) (decide (¬ (1 : Int32) = 0)) else a) (nI (kRef a (xs (i + 1)) (xs (i + 2)))) qo fu) [0, 1, 2, 3, 4, 5, 6, 7, 8, 9, 10, 11, 12, 13, 14, 15, 16, 17, 18, 19, 20, 21, 22, 23, 24, 25, 26, 28, 29, 30, 31, 32, 33, 34, 35, 36, 37, 38, 39, 40, 41, 42, 43, 44, 45, 46, 47, 48, 49, 27] rfl
      have hD := hD.sub (ws' := WA cI cF cL cZ h0 qy (if kRef a (xs (i + 1)) (xs (i + 2)) = 0 then sRefund a (nn (xs (i + 1))) (xs (i + 2)) (decide (¬ (1 : Int32) = 0)) else a) jcy jsy jvy ky (capOf (nn ((if kRef a (xs (i + 1)) (xs (i + 2)) = 0 then sRefund a (nn (xs (i + 1))) (xs (i + 2)) (decide (¬ (1 : Int32) = 0)) else a) 0 4))) h1 q2 (if kRef a (xs (i + 1)) (xs (i + 2)) = 0 then sRefund a (nn (xs (i + 1))) (xs (i + 2)) (decide (¬ (1 : Int32) = 0)) else a) (nI (kRef a (xs (i + 1)) (xs (i + 2)))) qo fu) [0, 1, 2, 3, 4, 5, 6, 7, 8, 9, 10, 11, 12, 13, 14, 15, 16, 17, 18, 19, 20, 21, 22, 23, 24, 25, 26, 28, 29, 30, 31, 32, 33, 34, 35, 36, 37, 38, 39, 40, 41, 42, 43, 44, 45, 46, 47, 48, 49, 27] (by decide) rfl
      generalize H1 = H at hP hS ⊢
      have hwR := hw
      obtain ⟨rv, erv⟩ : ∃ z, z = r := ⟨_, rfl⟩
      rw [← erv] at hwR ⊢
      refine lv_istore (lv' := [(6, .int rv), (5, .int (nI (kRef a (xs (i + 1)) (xs (i + 2))))), (4, .int (nI i)), (3, .ref qo), (2, .ref h1), (1, .ref h0), (0, .ref b)]) hx hb dL_law_735 hl (by decide) rfl (fun ls hl => ?_)
      refine lv_aload_n hx hb dL_law_737 rfl (lv_at hl 4 rfl) ?_
      have hPc := hP.sub (ws' := WM cI cF cZ h1 q2 (if kRef a (xs (i + 1)) (xs (i + 2)) = 0 then sRefund a (nn (xs (i + 1))) (xs (i + 2)) (decide (¬ (1 : Int32) = 0)) else a) (nI (kRef a (xs (i + 1)) (xs (i + 2))))) [27, 28, 29, 30, 31, 32, 33, 34, 35, 36, 37, 38, 39, 40, 41, 42, 43, 44, 45, 46, 47, 48] rfl
      have hDc := hD.sub (ws' := WM cI cF cZ h1 q2 (if kRef a (xs (i + 1)) (xs (i + 2)) = 0 then sRefund a (nn (xs (i + 1))) (xs (i + 2)) (decide (¬ (1 : Int32) = 0)) else a) (nI (kRef a (xs (i + 1)) (xs (i + 2))))) [27, 28, 29, 30, 31, 32, 33, 34, 35, 36, 37, 38, 39, 40, 41, 42, 43, 44, 45, 46, 47, 48] (by decide) rfl
      have hFc := va_free (wc := WM cI cF cZ h1 q2 (if kRef a (xs (i + 1)) (xs (i + 2)) = 0 then sRefund a (nn (xs (i + 1))) (xs (i + 2)) (decide (¬ (1 : Int32) = 0)) else a) (nI (kRef a (xs (i + 1)) (xs (i + 2))))) hD hS hA [27, 28, 29, 30, 31, 32, 33, 34, 35, 36, 37, 38, 39, 40, 41, 42, 43, 44, 45, 46, 47, 48] rfl
      have hKc := hK.sub (tys' := [(cI, .int), (cF, .float), (cZ, .boolean)]) [0, 1, 3] rfl
      refine va_calli (va_runV (As := []) (rest := []) ⟨hx, hb, hml, hown, hts⟩ (c_X5_thrown l dC dI cI cF cZ h1 q2 H.size (if kRef a (xs (i + 1)) (xs (i + 2)) = 0 then sRefund a (nn (xs (i + 1))) (xs (i + 2)) (decide (¬ (1 : Int32) = 0)) else a) (nI (kRef a (xs (i + 1)) (xs (i + 2)))) hB1) (cwV 0 hts gL_law_X5_thrown rfl rfl rfl (by decide +kernel) ⟨Nat.le_of_ble_eq_true rfl, Nat.le_of_ble_eq_true rfl⟩) ⟨pcW_blind, va_recv hKc hPc (ci := 5) (q0 := 0) rfl rfl, fun U hU hW => pcW_pre hPc hDc hKc hU hW⟩ rfl rfl hl.1 rfl (lv_room (Nat.le_of_ble_eq_true rfl)) dL_law_738 ⟨(by show _ + 0 ≤ 601024; omega), (by show _ + 0 ≤ 7293034; omega)⟩) hS (fun q _ h => hFc q h) hFc (fun r u t H1 locs ht hvm hw hB1 hz1 hk1 hS => ?_)
      obtain ⟨hPy, hKy, hDy⟩ := hB1
      rw [ht] at hPy
      obtain ⟨hP, hD⟩ := va_join (wr := WL cI cF cL h0 qy (if kRef a (xs (i + 1)) (xs (i + 2)) = 0 then sRefund a (nn (xs (i + 1))) (xs (i + 2)) (decide (¬ (1 : Int32) = 0)) else a) jcy jsy jvy ky (capOf (nn ((if kRef a (xs (i + 1)) (xs (i + 2)) = 0 then sRefund a (nn (xs (i + 1))) (xs (i + 2)) (decide (¬ (1 : Int32) = 0)) else a) 0 4))) qo fu) (w1 := WM cI cF cZ h1 q2 (if kRef a (xs (i + 1)) (xs (i + 2)) = 0 then sRefund a (nn (xs (i + 1))) (xs (i + 2)) (decide (¬ (1 : Int32) = 0)) else a) (nI (kRef a (xs (i + 1)) (xs (i + 2))))) hP hD [27, 28, 29, 30, 31, 32, 33, 34, 35, 36, 37, 38, 39, 40, 41, 42, 43, 44, 45, 46, 47, 48] [0, 1, 2, 3, 4, 5, 6, 7, 8, 9, 10, 11, 12, 13, 14, 15, 16, 17, 18, 19, 20, 21, 22, 23, 24, 25, 26, 49] rfl rfl (by decide) (by decide) hk1 hFc hPy hDy
      have hP := hP.sub (ws' := WA cI cF cL cZ h0 qy (if kRef a (xs (i + 1)) (xs (i + 2)) = 0 then sRefund a (nn (xs (i + 1))) (xs (i + 2)) (decide (¬ (1 : Int32) = 0)) else a) jcy jsy jvy ky (capOf (nn ((if kRef a (xs (i + 1)) (xs (i + 2)) = 0 then sRefund a (nn (xs (i + 1))) (xs (i + 2)) (decide (¬ (1 : Int32) = 0)) else a) 0 4))) h1 q2 (if kRef a (xs (i + 1)) (xs (i + 2)) = 0 then sRefund a (nn (xs (i + 1))) (xs (i + 2)) (decide (¬ (1 : Int32) = 0)) else a) (nI (kRef a (xs (i + 1)) (xs (i + 2)))) qo fu) [0, 1, 2, 3, 4, 5, 6, 7, 8, 9, 10, 11, 12, 13, 14, 15, 16, 17, 18, 19, 20, 21, 22, 23, 24, 25, 26, 28, 29, 30, 31, 32, 33, 34, 35, 36, 37, 38, 39, 40, 41, 42, 43, 44, 45, 46, 47, 48, 49, 27] rfl
      have hD := hD.sub (ws' := WA cI cF cL cZ h0 qy (if kRef a (xs (i + 1)) (xs (i + 2)) = 0 then sRefund a (nn (xs (i + 1))) (xs (i + 2)) (decide (¬ (1 : Int32) = 0)) else a) jcy jsy jvy ky (capOf (nn ((if kRef a (xs (i + 1)) (xs (i + 2)) = 0 then sRefund a (nn (xs (i + 1))) (xs (i + 2)) (decide (¬ (1 : Int32) = 0)) else a) 0 4))) h1 q2 (if kRef a (xs (i + 1)) (xs (i + 2)) = 0 then sRefund a (nn (xs (i + 1))) (xs (i + 2)) (decide (¬ (1 : Int32) = 0)) else a) (nI (kRef a (xs (i + 1)) (xs (i + 2)))) qo fu) [0, 1, 2, 3, 4, 5, 6, 7, 8, 9, 10, 11, 12, 13, 14, 15, 16, 17, 18, 19, 20, 21, 22, 23, 24, 25, 26, 28, 29, 30, 31, 32, 33, 34, 35, 36, 37, 38, 39, 40, 41, 42, 43, 44, 45, 46, 47, 48, 49, 27] (by decide) rfl
      generalize H1 = H at hP hS ⊢
      refine y_topi (y := nI (kRef a (xs (i + 1)) (xs (i + 2)))) hw ?_
      refine lv_iload hx hb dL_law_741 (lv_at hl 1 rfl) ?_
      refine lv_icmp_eq (tgt := 748) hx hb dL_law_743 (by decide) (fun c_7 => ?_) (fun c_7 => ?_)
      · refine lv_iload hx hb dL_law_748 (lv_at hl 1 rfl) ?_
        refine lv_if_ne (tgt := 765) hx hb dL_law_750 (by decide) (fun c_8 => ?_) (fun c_8 => ?_)
        · refine lv_goto (tgt := 1294) hx hb dL_law_765 (by decide) ?_
          refine W.widen (k := cells + 1026) (n := slots + 6156) (by omega) (by omega) ?_
          exact K _ qy jcy jsy jvy ky _ _ _ _ _ hI1 hCy hP hD hS (lv_sub hl [2, 3, 4, 5, 6] rfl)
        · have hK0 : kRef a (xs (i + 1)) (xs (i + 2)) = 0 := by
            rcases kRef_r a (xs (i + 1)) (xs (i + 2)) with h9 | h9 | h9 | h9 <;> first | exact h9 | (rw [h9] at c_8; exact absurd c_8 (by decide))
          refine lv_aload_n hx hb dL_law_753 rfl (lv_at hl 3 rfl) ?_
          refine lv_iconst (v := 0) hx hb dL_law_754 (by decide) ?_
          refine y_lld hx hb hK hP 49 2 rfl rfl dL_law_755 ?_
          refine lv_iload hx hb dL_law_756 (lv_at hl 0 rfl) ?_
          refine lv_i2l (v := (rv).toInt64) hx hb dL_law_758 rfl ?_
          refine y_lcmp hx hb (by rw [hwL.2 hK0, hwR hK0]) dL_law_759 ?_
          refine lv_if_eq (tgt := 765) hx hb dL_law_760 (by decide) (fun c_9 => ?_) (fun c_9 => ?_)
          · refine lv_goto (tgt := 1294) hx hb dL_law_765 (by decide) ?_
            refine W.widen (k := cells + 1026) (n := slots + 6156) (by omega) (by omega) ?_
            exact K _ qy jcy jsy jvy ky _ _ _ _ _ hI1 hCy hP hD hS (lv_sub hl [2, 3, 4, 5, 6] rfl)
          · exact absurd rfl c_9
      · exact absurd rfl c_7
