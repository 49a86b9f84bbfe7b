set_option maxHeartbeats 4000000 in
set_option maxRecDepth 100000 in
theorem lc_setShare {p : Program} {l : Launch} {e : Env} {s : State} {m : MethodId} {below : List Frame} {meth : Method} {c : Code} {Q : State → Prop} {b L i n : Nat} {xs : Nat → Int32} {dC : Nat → ClassId} {dI : Nat → Nat → Nat} {cI cF cL cZ : ClassId} {A : Nat → Prop} (hst : l.stackTraces = false) (hx : p.tables.exec = Jvm.exec) (hb : c.code = cL_law) (hml : c.maxLocals = 7) (hown : s.vm.findClass RL = some m.cls) (hts : ∀ w ∈ wsL_law, w.before #[Value.ref b] s = true) (hX : va_X b L xs s s.heap) (hbl : b < s.heap.size) (hbA : ¬ A b) (hA : ∀ q : Nat, s.heap.size ≤ q → A q) (hK : va_K (dC, dI) vwCl [(cI, .int), (cF, .float), (cL, .long), (cZ, .boolean)] s) (hV : okV A s) (hN : okN3 s) {a : yA} (hI : okA a n) (hn : n < 512) (hi : i + 3 < L) (hL : L ≤ 2048) {h0 h1 qo : Nat} {q q2 : Nat → Nat} {jc js jv : Nat → Int32} {k : Nat} {th : Int32} {fo : Nat → Int64} {H : Heap} {locs : List Loc} {cells slots : Nat} {ls : Array Slot} (hC : okC a jc js jv k) (hP : va_P (dC, dI) vwCl (WA cI cF cL cZ h0 q a jc js jv k (capOf (nn (a 0 4))) h1 q2 a th qo fo) H) (hD : va_D A (WA cI cF cL cZ h0 q a jc js jv k (capOf (nn (a 0 4))) h1 q2 a th qo fo)) (hS : va_S A s.heap H locs) (hl : lv_has ls 7 [(4, .int (nI i)), (3, .ref qo), (2, .ref h1), (1, .ref h0), (0, .ref b)]) (hc : cells ≤ 100 + 1026 * n) (hs : slots ≤ 9000 + 6156 * n) (K : ∀ (a1 : yA) (q1 : Nat → Nat) (jc1 js1 jv1 : Nat → Int32) (k1 : Nat) (th1 : Int32) (fo1 : Nat → Int64) (H1 : Heap) (locs1 : List Loc) (ls1 : Array Slot), okA a1 (n + 1) → okC a1 jc1 js1 jv1 k1 → va_P (dC, dI) vwCl (WA cI cF cL cZ h0 q1 a1 jc1 js1 jv1 k1 (capOf (nn (a1 0 4))) h1 q2 a1 th1 qo fo1) H1 → va_D A (WA cI cF cL cZ h0 q1 a1 jc1 js1 jv1 k1 (capOf (nn (a1 0 4))) h1 q2 a1 th1 qo fo1) → va_S A s.heap H1 locs1 → lv_has ls1 7 [(4, .int (nI i)), (3, .ref qo), (2, .ref h1), (1, .ref h0), (0, .ref b)] → W p l e room_1 s m #[Value.ref b] below meth c H1 locs1 (cells + 1026) (slots + 6156) Q (F0 m 1294 ls1 [])) : W p l e room_1 s m #[Value.ref b] below meth c H locs cells slots Q (F0 m 388 ls []) := by
  have hB := okA_B hI
  refine lv_aload_n hx hb dL_law_388 rfl (lv_at hl 3 rfl) ?_
  refine lv_aload_n hx hb dL_law_389 rfl (lv_at hl 4 rfl) ?_
  refine lv_iload hx hb dL_law_390 (lv_at hl 0 rfl) ?_
  refine lv_iconst (v := 1) hx hb dL_law_392 (by decide) ?_
  refine lv_iadd hx hb dL_law_393 ?_
  refine y_topi (y := nI (i + 1)) (by first | exact nI_1 i | exact nI_add i 1) ?_
  refine va_sld hx hb hX hbl hbA hS (vp_in_nI (by omega) (by omega)) dL_law_394 ?_
  refine y_topi (y := xs (i + 1)) (by rw [nI_clamp (by omega)]) ?_
  refine lv_aload_n hx hb dL_law_395 rfl (lv_at hl 4 rfl) ?_
  refine lv_iload hx hb dL_law_396 (lv_at hl 0 rfl) ?_
  refine lv_iconst (v := 2) hx hb dL_law_398 (by decide) ?_
  refine lv_iadd hx hb dL_law_399 ?_
  refine y_topi (y := nI (i + 2)) (by first | exact nI_1 i | exact nI_add i 2) ?_
  refine va_sld hx hb hX hbl hbA hS (vp_in_nI (by omega) (by omega)) dL_law_400 ?_
  refine y_topi (y := xs (i + 2)) (by rw [nI_clamp (by omega)]) ?_
  refine lv_aload_n hx hb dL_law_401 rfl (lv_at hl 1 rfl) ?_
  have hPc := hP.sub (ws' := WL cI cF cL h0 q a jc js jv k (capOf (nn (a 0 4))) qo fo) [0, 1, 2, 3, 4, 5, 6, 7, 8, 9, 10, 11, 12, 13, 14, 15, 16, 17, 18, 19, 20, 21, 22, 23, 24, 25, 26, 49] rfl
  have hDc := hD.sub (ws' := WL cI cF cL h0 q a jc js jv k (capOf (nn (a 0 4))) qo fo) [0, 1, 2, 3, 4, 5, 6, 7, 8, 9, 10, 11, 12, 13, 14, 15, 16, 17, 18, 19, 20, 21, 22, 23, 24, 25, 26, 49] (by decide) rfl
  have hFc := va_free (wc := WL cI cF cL h0 q a jc js jv k (capOf (nn (a 0 4))) qo fo) hD hS hA [0, 1, 2, 3, 4, 5, 6, 7, 8, 9, 10, 11, 12, 13, 14, 15, 16, 17, 18, 19, 20, 21, 22, 23, 24, 25, 26, 49] rfl
  have hKc := hK.sub (tys' := [(cI, .int), (cF, .float), (cL, .long)]) [0, 1, 2] rfl
  refine va_calli (vx_runSW (As := [.ref h0, .int (xs (i + 1)), .int (xs (i + 2)), .ref qo]) (rest := []) ⟨hx, hb, hml, hown, hts⟩ (c_L_setShare l dC dI cI cF cL h0 qo q H.size a jc js jv k fo hst hC hB (xs (i + 1)) (xs (i + 2))) (vx_cwSW 4 hts gL_law_L_setShare rfl rfl rfl (by decide +kernel) ⟨Nat.le_of_ble_eq_true rfl, Nat.le_of_ble_eq_true rfl⟩) ⟨pcH_blind, fun U hU hW => pcH_pre hPc hDc hKc hV hN hS hFc hU hW⟩ rfl rfl hl.1 rfl (lv_room (Nat.le_of_ble_eq_true rfl)) dL_law_402 ⟨(by show cells + (2) ≤ 601024; omega), (by show slots + (12) ≤ 7293034; omega)⟩) hS (fun q _ h => hFc q h) hFc (fun r fu t H1 locs ht hvm hw hB1 hz1 hk1 hS => ?_)
  obtain ⟨qy, jcy, jsy, jvy, ky, hCy, hPy, hKy, hDy⟩ := hB1
  rw [ht] at hPy
  have hwL := hw
  obtain ⟨hP, hD⟩ := va_join (wr := (WM cI cF cZ h1 q2 a th)) (w1 := WL cI cF cL h0 qy (if kShr (xs (i + 1)) (xs (i + 2)) = 0 then sShr a (xs (i + 1)) (xs (i + 2)) else a) jcy jsy jvy ky (capOf (nn ((if kShr (xs (i + 1)) (xs (i + 2)) = 0 then sShr a (xs (i + 1)) (xs (i + 2)) else a) 0 4))) qo fu) hP hD [0, 1, 2, 3, 4, 5, 6, 7, 8, 9, 10, 11, 12, 13, 14, 15, 16, 17, 18, 19, 20, 21, 22, 23, 24, 25, 26, 49] [27, 28, 29, 30, 31, 32, 33, 34, 35, 36, 37, 38, 39, 40, 41, 42, 43, 44, 45, 46, 47, 48] rfl rfl (by decide) (by decide) hk1 hFc hPy hDy
  have hP := hP.sub (ws' := WA cI cF cL cZ h0 qy (if kShr (xs (i + 1)) (xs (i + 2)) = 0 then sShr a (xs (i + 1)) (xs (i + 2)) else a) jcy jsy jvy ky (capOf (nn ((if kShr (xs (i + 1)) (xs (i + 2)) = 0 then sShr a (xs (i + 1)) (xs (i + 2)) else a) 0 4))) h1 q2 a th qo fu) [22, 23, 24, 25, 26, 27, 28, 29, 30, 31, 32, 33, 34, 35, 36, 37, 38, 39, 40, 41, 42, 43, 44, 45, 46, 47, 48, 0, 1, 2, 3, 4, 5, 6, 7, 8, 9, 10, 11, 12, 13, 14, 15, 16, 17, 18, 19, 20, 21, 49] rfl
  have hD := hD.sub (ws' := WA cI cF cL cZ h0 qy (if kShr (xs (i + 1)) (xs (i + 2)) = 0 then sShr a (xs (i + 1)) (xs (i + 2)) else a) jcy jsy jvy ky (capOf (nn ((if kShr (xs (i + 1)) (xs (i + 2)) = 0 then sShr a (xs (i + 1)) (xs (i + 2)) else a) 0 4))) h1 q2 a th qo fu) [22, 23, 24, 25, 26, 27, 28, 29, 30, 31, 32, 33, 34, 35, 36, 37, 38, 39, 40, 41, 42, 43, 44, 45, 46, 47, 48, 0, 1, 2, 3, 4, 5, 6, 7, 8, 9, 10, 11, 12, 13, 14, 15, 16, 17, 18, 19, 20, 21, 49] (by decide) rfl
  generalize H1 = H at hP hS ⊢
  refine y_topi (y := nI (kShr (xs (i + 1)) (xs (i + 2)))) hwL.1 ?_
  have hI1 : okA (if kShr (xs (i + 1)) (xs (i + 2)) = 0 then sShr a (xs (i + 1)) (xs (i + 2)) else a) (n + 1) := by
    split
    · next h9 => exact okA_shr hI hn h9
    · exact okA_up hI hn
  have hB1 := okA_B hI1
  refine lv_istore (lv' := [(5, .int (nI (kShr (xs (i + 1)) (xs (i + 2))))), (4, .int (nI i)), (3, .ref qo), (2, .ref h1), (1, .ref h0), (0, .ref b)]) hx hb dL_law_405 hl (by decide) rfl (fun ls hl => ?_)
  refine lv_aload_n hx hb dL_law_407 rfl (lv_at hl 3 rfl) ?_
  refine lv_aload_n hx hb dL_law_408 rfl (lv_at hl 5 rfl) ?_
  refine lv_iload hx hb dL_law_409 (lv_at hl 1 rfl) ?_
  refine lv_iconst (v := 1) hx hb dL_law_411 (by decide) ?_
  refine lv_iadd hx hb dL_law_412 ?_
  refine y_topi (y := nI (i + 1)) (by first | exact nI_1 i | exact nI_add i 1) ?_
  refine va_sld hx hb hX hbl hbA hS (vp_in_nI (by omega) (by omega)) dL_law_413 ?_
  refine y_topi (y := xs (i + 1)) (by rw [nI_clamp (by omega)]) ?_
  refine lv_aload_n hx hb dL_law_414 rfl (lv_at hl 5 rfl) ?_
  refine lv_iload hx hb dL_law_415 (lv_at hl 1 rfl) ?_
  refine lv_iconst (v := 2) hx hb dL_law_417 (by decide) ?_
  refine lv_iadd hx hb dL_law_418 ?_
  refine y_topi (y := nI (i + 2)) (by first | exact nI_1 i | exact nI_add i 2) ?_
  refine va_sld hx hb hX hbl hbA hS (vp_in_nI (by omega) (by omega)) dL_law_419 ?_
  refine y_topi (y := xs (i + 2)) (by rw [nI_clamp (by omega)]) ?_
  have hPc := hP.sub (ws' := WM cI cF cZ h1 q2 a th) [27, 28, 29, 30, 31, 32, 33, 34, 35, 36, 37, 38, 39, 40, 41, 42, 43, 44, 45, 46, 47, 48] rfl
  have hDc := hD.sub (ws' := WM cI cF cZ h1 q2 a th) [27, 28, 29, 30, 31, 32, 33, 34, 35, 36, 37, 38, 39, 40, 41, 42, 43, 44, 45, 46, 47, 48] (by decide) rfl
  have hFc := va_free (wc := WM cI cF cZ h1 q2 a th) hD hS hA [27, 28, 29, 30, 31, 32, 33, 34, 35, 36, 37, 38, 39, 40, 41, 42, 43, 44, 45, 46, 47, 48] rfl
  have hKc := hK.sub (tys' := [(cI, .int), (cF, .float), (cZ, .boolean)]) [0, 1, 3] rfl
  refine va_calli (va_runV (As := [.int (xs (i + 1)), .int (xs (i + 2))]) (rest := []) ⟨hx, hb, hml, hown, hts⟩ (c_X5_setShare l dC dI cI cF cZ h1 q2 H.size a th hB (xs (i + 1)) (xs (i + 2))) (cwV 2 hts gL_law_X5_setShare rfl rfl rfl (by decide +kernel) ⟨Nat.le_of_ble_eq_true rfl, Nat.le_of_ble_eq_true rfl⟩) ⟨pcW_blind, va_recv hKc hPc (ci := 5) (q0 := 0) rfl rfl, fun U hU hW => pcW_pre hPc hDc hKc hU hW⟩ rfl rfl hl.1 rfl (lv_room (Nat.le_of_ble_eq_true rfl)) dL_law_420 ⟨(by show _ + 0 ≤ 601024; omega), (by show _ + 0 ≤ 7293034; omega)⟩) hS (fun q _ h => hFc q h) hFc (fun r u t H1 locs ht hvm hw hB1 hz1 hk1 hS => ?_)
  obtain ⟨hPy, hKy, hDy⟩ := hB1
  rw [ht] at hPy
  obtain ⟨hP, hD⟩ := va_join (wr := WL cI cF cL h0 qy (if kShr (xs (i + 1)) (xs (i + 2)) = 0 then sShr a (xs (i + 1)) (xs (i + 2)) else a) jcy jsy jvy ky (capOf (nn ((if kShr (xs (i + 1)) (xs (i + 2)) = 0 then sShr a (xs (i + 1)) (xs (i + 2)) else a) 0 4))) qo fu) (w1 := WM cI cF cZ h1 q2 (if kShr (xs (i + 1)) (xs (i + 2)) = 0 then sShr a (xs (i + 1)) (xs (i + 2)) else a) (nI (kShr (xs (i + 1)) (xs (i + 2))))) hP hD [27, 28, 29, 30, 31, 32, 33, 34, 35, 36, 37, 38, 39, 40, 41, 42, 43, 44, 45, 46, 47, 48] [0, 1, 2, 3, 4, 5, 6, 7, 8, 9, 10, 11, 12, 13, 14, 15, 16, 17, 18, 19, 20, 21, 22, 23, 24, 25, 26, 49] rfl rfl (by decide) (by decide) hk1 hFc hPy hDy
  have hP := hP.sub (ws' := WA cI cF cL cZ h0 qy (if kShr (xs (i + 1)) (xs (i + 2)) = 0 then sShr a (xs (i + 1)) (xs (i + 2)) else a) jcy jsy jvy ky (capOf (nn ((if kShr (xs (i + 1)) (xs (i + 2)) = 0 then sShr a (xs (i + 1)) (xs (i + 2)) else a) 0 4))) h1 q2 (if kShr (xs (i + 1)) (xs (i + 2)) = 0 then sShr a (xs (i + 1)) (xs (i + 2)) else a) (nI (kShr (xs (i + 1)) (xs (i + 2)))) qo fu) [0, 1, 2, 3, 4, 5, 6, 7, 8, 9, 10, 11, 12, 13, 14, 15, 16, 17, 18, 19, 20, 21, 22, 23, 24, 25, 26, 28, 29, 30, 31, 32, 33, 34, 35, 36, 37, 38, 39, 40, 41, 42, 43, 44, 45, 46, 47, 48, 49, 27] rfl
  have hD := hD.sub (ws' := WA cI cF cL cZ h0 qy (if kShr (xs (i + 1)) (xs (i + 2)) = 0 then sShr a (xs (i + 1)) (xs (i + 2)) else a) jcy jsy jvy ky (capOf (nn ((if kShr (xs (i + 1)) (xs (i + 2)) = 0 then sShr a (xs (i + 1)) (xs (i + 2)) else a) 0 4))) h1 q2 (if kShr (xs (i + 1)) (xs (i + 2)) = 0 then sShr a (xs (i + 1)) (xs (i + 2)) else a) (nI (kShr (xs (i + 1)) (xs (i + 2)))) qo fu) [0, 1, 2, 3, 4, 5, 6, 7, 8, 9, 10, 11, 12, 13, 14, 15, 16, 17, 18, 19, 20, 21, 22, 23, 24, 25, 26, 28, 29, 30, 31, 32, 33, 34, 35, 36, 37, 38, 39, 40, 41, 42, 43, 44, 45, 46, 47, 48, 49, 27] (by decide) rfl
  generalize H1 = H at hP hS ⊢
  have hwR := hw
  obtain ⟨rv, erv⟩ : ∃ z, z = r := ⟨_, rfl⟩
  rw [← erv] at hwR ⊢
  refine lv_istore (lv' := [(6, .int rv), (5, .int (nI (kShr (xs (i + 1)) (xs (i + 2))))), (4, .int (nI i)), (3, .ref qo), (2, .ref h1), (1, .ref h0), (0, .ref b)]) hx hb dL_law_423 hl (by decide) rfl (fun ls hl => ?_)
  refine lv_aload_n hx hb dL_law_425 rfl (lv_at hl 4 rfl) ?_
  have hPc := hP.sub (ws' := WM cI cF cZ h1 q2 (if kShr (xs (i + 1)) (xs (i + 2)) = 0 then sShr a (xs (i + 1)) (xs (i + 2)) else a) (nI (kShr (xs (i + 1)) (xs (i + 2))))) [27, 28, 29, 30, 31, 32, 33, 34, 35, 36, 37, 38, 39, 40, 41, 42, 43, 44, 45, 46, 47, 48] rfl
  have hDc := hD.sub (ws' := WM cI cF cZ h1 q2 (if kShr (xs (i + 1)) (xs (i + 2)) = 0 then sShr a (xs (i + 1)) (xs (i + 2)) else a) (nI (kShr (xs (i + 1)) (xs (i + 2))))) [27, 28, 29, 30, 31, 32, 33, 34, 35, 36, 37, 38, 39, 40, 41, 42, 43, 44, 45, 46, 47, 48] (by decide) rfl
  have hFc := va_free (wc := WM cI cF cZ h1 q2 (if kShr (xs (i + 1)) (xs (i + 2)) = 0 then sShr a (xs (i + 1)) (xs (i + 2)) else a) (nI (kShr (xs (i + 1)) (xs (i + 2))))) hD hS hA [27, 28, 29, 30, 31, 32, 33, 34, 35, 36, 37, 38, 39, 40, 41, 42, 43, 44, 45, 46, 47, 48] rfl
  have hKc := hK.sub (tys' := [(cI, .int), (cF, .float), (cZ, .boolean)]) [0, 1, 3] rfl
  refine va_calli (va_runV (As := []) (rest := []) ⟨hx, hb, hml, hown, hts⟩ (c_X5_thrown l dC dI cI cF cZ h1 q2 H.size (if kShr (xs (i + 1)) (xs (i + 2)) = 0 then sShr a (xs (i + 1)) (xs (i + 2)) else a) (nI (kShr (xs (i + 1)) (xs (i + 2)))) hB1) (cwV 0 hts gL_law_X5_thrown rfl rfl rfl (by decide +kernel) ⟨Nat.le_of_ble_eq_true rfl, Nat.le_of_ble_eq_true rfl⟩) ⟨pcW_blind, va_recv hKc hPc (ci := 5) (q0 := 0) rfl rfl, fun U hU hW => pcW_pre hPc hDc hKc hU hW⟩ rfl rfl hl.1 rfl (lv_room (Nat.le_of_ble_eq_true rfl)) dL_law_426 ⟨(by show _ + 0 ≤ 601024; omega), (by show _ + 0 ≤ 7293034; omega)⟩) hS (fun q _ h => hFc q h) hFc (fun r u t H1 locs ht hvm hw hB1 hz1 hk1 hS => ?_)
  obtain ⟨hPy, hKy, hDy⟩ := hB1
  rw [ht] at hPy
  obtain ⟨hP, hD⟩ := va_join (wr := WL cI cF cL h0 qy (if kShr (xs (i + 1)) (xs (i + 2)) = 0 then sShr a (xs (i + 1)) (xs (i + 2)) else a) jcy jsy jvy ky (capOf (nn ((if kShr (xs (i + 1)) (xs (i + 2)) = 0 then sShr a (xs (i + 1)) (xs (i + 2)) else a) 0 4))) qo fu) (w1 := WM cI cF cZ h1 q2 (if kShr (xs (i + 1)) (xs (i + 2)) = 0 then sShr a (xs (i + 1)) (xs (i + 2)) else a) (nI (kShr (xs (i + 1)) (xs (i + 2))))) hP hD [27, 28, 29, 30, 31, 32, 33, 34, 35, 36, 37, 38, 39, 40, 41, 42, 43, 44, 45, 46, 47, 48] [0, 1, 2, 3, 4, 5, 6, 7, 8, 9, 10, 11, 12, 13, 14, 15, 16, 17, 18, 19, 20, 21, 22, 23, 24, 25, 26, 49] rfl rfl (by decide) (by decide) hk1 hFc hPy hDy
  have hP := hP.sub (ws' := WA cI cF cL cZ h0 qy (if kShr (xs (i + 1)) (xs (i + 2)) = 0 then sShr a (xs (i + 1)) (xs (i + 2)) else a) jcy jsy jvy ky (capOf (nn ((if kShr (xs (i + 1)) (xs (i + 2)) = 0 then sShr a (xs (i + 1)) (xs (i + 2)) else a) 0 4))) h1 q2 (if kShr (xs (i + 1)) (xs (i + 2)) = 0 then sShr a (xs (i + 1)) (xs (i + 2)) else a) (nI (kShr (xs (i + 1)) (xs (i + 2)))) qo fu) [0, 1, 2, 3, 4, 5, 6, 7, 8, 9, 10, 11, 12, 13, 14, 15, 16, 17, 18, 19, 20, 21, 22, 23, 24, 25, 26, 28, 29, 30, 31, 32, 33, 34, 35, 36, 37, 38, 39, 40, 41, 42, 43, 44, 45, 46, 47, 48, 49, 27] rfl
  have hD := hD.sub (ws' := WA cI cF cL cZ h0 qy (if kShr (xs (i + 1)) (xs (i + 2)) = 0 then sShr a (xs (i + 1)) (xs (i + 2)) else a) jcy jsy jvy ky (capOf (nn ((if kShr (xs (i + 1)) (xs (i + 2)) = 0 then sShr a (xs (i + 1)) (xs (i + 2)) else a) 0 4))) h1 q2 (if kShr (xs (i + 1)) (xs (i + 2)) = 0 then sShr a (xs (i + 1)) (xs (i + 2)) else a) (nI (kShr (xs (i + 1)) (xs (i + 2)))) qo fu) [0, 1, 2, 3, 4, 5, 6, 7, 8, 9, 10, 11, 12, 13, 14, 15, 16, 17, 18, 19, 20, 21, 22, 23, 24, 25, 26, 28, 29, 30, 31, 32, 33, 34, 35, 36, 37, 38, 39, 40, 41, 42, 43, 44, 45, 46, 47, 48, 49, 27] (by decide) rfl
  generalize H1 = H at hP hS ⊢
  refine y_topi (y := nI (kShr (xs (i + 1)) (xs (i + 2)))) hw ?_
  refine lv_iload hx hb dL_law_429 (lv_at hl 1 rfl) ?_
  refine lv_icmp_eq (tgt := 436) hx hb dL_law_431 (by decide) (fun c_1 => ?_) (fun c_1 => ?_)
  · refine lv_iload hx hb dL_law_436 (lv_at hl 1 rfl) ?_
    refine lv_if_ne (tgt := 453) hx hb dL_law_438 (by decide) (fun c_2 => ?_) (fun c_2 => ?_)
    · refine lv_goto (tgt := 1294) hx hb dL_law_453 (by decide) ?_
      refine W.widen (k := cells + 1026) (n := slots + 6156) (by omega) (by omega) ?_
      exact K _ qy jcy jsy jvy ky _ _ _ _ _ hI1 hCy hP hD hS (lv_sub hl [2, 3, 4, 5, 6] rfl)
    · have hK0 : kShr (xs (i + 1)) (xs (i + 2)) = 0 := by
        rcases kShr_r (xs (i + 1)) (xs (i + 2)) with h9 | h9 | h9 <;> first | exact h9 | (rw [h9] at c_2; exact absurd c_2 (by decide))
      refine lv_aload_n hx hb dL_law_441 rfl (lv_at hl 3 rfl) ?_
      refine lv_iconst (v := 0) hx hb dL_law_442 (by decide) ?_
      refine y_lld hx hb hK hP 49 2 rfl rfl dL_law_443 ?_
      refine lv_iload hx hb dL_law_444 (lv_at hl 0 rfl) ?_
      refine lv_i2l (v := (rv).toInt64) hx hb dL_law_446 rfl ?_
      refine y_lcmp hx hb (by rw [hwL.2 hK0, hwR hK0]) dL_law_447 ?_
      refine lv_if_eq (tgt := 453) hx hb dL_law_448 (by decide) (fun c_3 => ?_) (fun c_3 => ?_)
      · refine lv_goto (tgt := 1294) hx hb dL_law_453 (by decide) ?_
        refine W.widen (k := cells + 1026) (n := slots + 6156) (by omega) (by omega) ?_
        exact K _ qy jcy jsy jvy ky _ _ _ _ _ hI1 hCy hP hD hS (lv_sub hl [2, 3, 4, 5, 6] rfl)
      · exact absurd rfl c_3
  · exact absurd rfl c_1
set_option maxHeartbeats 4000000 in
set_option maxRecDepth 100000 in
theorem lc_setTax {p : Program} {l : Launch} {e : Env} {s : State} {m : MethodId} {below : List Frame} {meth : Method} {c : Code} {Q : State → Prop} {b L i n : Nat} {xs : Nat → Int32} {dC : Nat → ClassId} {dI : Nat → Nat → Nat} {cI cF cL cZ : ClassId} {A : Nat → Prop} (hst : l.stackTraces = false) (hx : p.tables.exec = Jvm.exec) (hb : c.code = cL_law) (hml : c.maxLocals = 7) (hown : s.vm.findClass RL = some m.cls) (hts : ∀ w ∈ wsL_law, w.before #[Value.ref b] s = true) (hX : va_X b L xs s s.heap) (hbl : b < s.heap.size) (hbA : ¬ A b) (hA : ∀ q : Nat, s.heap.size ≤ q → A q) (hK : va_K (dC, dI) vwCl [(cI, .int), (cF, .float), (cL, .long), (cZ, .boolean)] s) (hV : okV A s) (hN : okN3 s) {a : yA} (hI : okA a n) (hn : n < 512) (hi : i + 3 < L) (hL : L ≤ 2048) {h0 h1 qo : Nat} {q q2 : Nat → Nat} {jc js jv : Nat → Int32} {k : Nat} {th : Int32} {fo : Nat → Int64} {H : Heap} {locs : List Loc} {cells slots : Nat} {ls : Array Slot} (hC : okC a jc js jv k) (hP : va_P (dC, dI) vwCl (WA cI cF cL cZ h0 q a jc js jv k (capOf (nn (a 0 4))) h1 q2 a th qo fo) H) (hD : va_D A (WA cI cF cL cZ h0 q a jc js jv k (capOf (nn (a 0 4))) h1 q2 a th qo fo)) (hS : va_S A s.heap H locs) (hl : lv_has ls 7 [(4, .int (nI i)), (3, .ref qo), (2, .ref h1), (1, .ref h0), (0, .ref b)]) (hc : cells ≤ 100 + 1026 * n) (hs : slots ≤ 9000 + 6156 * n) (K : ∀ (a1 : yA) (q1 : Nat → Nat) (jc1 js1 jv1 : Nat → Int32) (k1 : Nat) (th1 : Int32) (fo1 : Nat → Int64) (H1 : Heap) (locs1 : List Loc) (ls1 : Array Slot), okA a1 (n + 1) → okC a1 jc1 js1 jv1 k1 → va_P (dC, dI) vwCl (WA cI cF cL cZ h0 q1 a1 jc1 js1 jv1 k1 (capOf (nn (a1 0 4))) h1 q2 a1 th1 qo fo1) H1 → va_D A (WA cI cF cL cZ h0 q1 a1 jc1 js1 jv1 k1 (capOf (nn (a1 0 4))) h1 q2 a1 th1 qo fo1) → va_S A s.heap H1 locs1 → lv_has ls1 7 [(4, .int (nI i)), (3, .ref qo), (2, .ref h1), (1, .ref h0), (0, .ref b)] → W p l e room_1 s m #[Value.ref b] below meth c H1 locs1 (cells + 1026) (slots + 6156) Q (F0 m 1294 ls1 [])) : W p l e room_1 s m #[Value.ref b] below meth c H locs cells slots Q (F0 m 456 ls []) := by
  have hB := okA_B hI
  refine lv_aload_n hx hb dL_law_456 rfl (lv_at hl 3 rfl) ?_
  refine lv_aload_n hx hb dL_law_457 rfl (lv_at hl 4 rfl) ?_
  refine lv_iload hx hb dL_law_458 (lv_at hl 0 rfl) ?_
  refine lv_iconst (v := 1) hx hb dL_law_460 (by decide) ?_
  refine lv_iadd hx hb dL_law_461 ?_
  refine y_topi (y := nI (i + 1)) (by first | exact nI_1 i | exact nI_add i 1) ?_
  refine va_sld hx hb hX hbl hbA hS (vp_in_nI (by omega) (by omega)) dL_law_462 ?_
  refine y_topi (y := xs (i + 1)) (by rw [nI_clamp (by omega)]) ?_
  refine lv_aload_n hx hb dL_law_463 rfl (lv_at hl 1 rfl) ?_
  have hPc := hP.sub (ws' := WL cI cF cL h0 q a jc js jv k (capOf (nn (a 0 4))) qo fo) [0, 1, 2, 3, 4, 5, 6, 7, 8, 9, 10, 11, 12, 13, 14, 15, 16, 17, 18, 19, 20, 21, 22, 23, 24, 25, 26, 49] rfl
  have hDc := hD.sub (ws' := WL cI cF cL h0 q a jc js jv k (capOf (nn (a 0 4))) qo fo) [0, 1, 2, 3, 4, 5, 6, 7, 8, 9, 10, 11, 12, 13, 14, 15, 16, 17, 18, 19, 20, 21, 22, 23, 24, 25, 26, 49] (by decide) rfl
  have hFc := va_free (wc := WL cI cF cL h0 q a jc js jv k (capOf (nn (a 0 4))) qo fo) hD hS hA [0, 1, 2, 3, 4, 5, 6, 7, 8, 9, 10, 11, 12, 13, 14, 15, 16, 17, 18, 19, 20, 21, 22, 23, 24, 25, 26, 49] rfl
  have hKc := hK.sub (tys' := [(cI, .int), (cF, .float), (cL, .long)]) [0, 1, 2] rfl
  refine va_calli (vx_runSW (As := [.ref h0, .int (xs (i + 1)), .ref qo]) (rest := []) ⟨hx, hb, hml, hown, hts⟩ (c_L_setTax l dC dI cI cF cL h0 qo q H.size a jc js jv k fo hst hC hB (xs (i + 1))) (vx_cwSW 3 hts gL_law_L_setTax rfl rfl rfl (by decide +kernel) ⟨Nat.le_of_ble_eq_true rfl, Nat.le_of_ble_eq_true rfl⟩) ⟨pcH_blind, fun U hU hW => pcH_pre hPc hDc hKc hV hN hS hFc hU hW⟩ rfl rfl hl.1 rfl (lv_room (Nat.le_of_ble_eq_true rfl)) dL_law_464 ⟨(by show cells + (1) ≤ 601024; omega), (by show slots + (6) ≤ 7293034; omega)⟩) hS (fun q _ h => hFc q h) hFc (fun r fu t H1 locs ht hvm hw hB1 hz1 hk1 hS => ?_)
  obtain ⟨qy, jcy, jsy, jvy, ky, hCy, hPy, hKy, hDy⟩ := hB1
  rw [ht] at hPy
  have hwL := hw
  obtain ⟨hP, hD⟩ := va_join (wr := (WM cI cF cZ h1 q2 a th)) (w1 := WL cI cF cL h0 qy (if kTax (xs (i + 1)) = 0 then sTaxS a (xs (i + 1)) else a) jcy jsy jvy ky (capOf (nn ((if kTax (xs (i + 1)) = 0 then sTaxS a (xs (i + 1)) else a) 0 4))) qo fu) hP hD [0, 1, 2, 3, 4, 5, 6, 7, 8, 9, 10, 11, 12, 13, 14, 15, 16, 17, 18, 19, 20, 21, 22, 23, 24, 25, 26, 49] [27, 28, 29, 30, 31, 32, 33, 34, 35, 36, 37, 38, 39, 40, 41, 42, 43, 44, 45, 46, 47, 48] rfl rfl (by decide) (by decide) hk1 hFc hPy hDy
  have hP := hP.sub (ws' := WA cI cF cL cZ h0 qy (if kTax (xs (i + 1)) = 0 then sTaxS a (xs (i + 1)) else a) jcy jsy jvy ky (capOf (nn ((if kTax (xs (i + 1)) = 0 then sTaxS a (xs (i + 1)) else a) 0 4))) h1 q2 a th qo fu) [22, 23, 24, 25, 26, 27, 28, 29, 30, 31, 32, 33, 34, 35, 36, 37, 38, 39, 40, 41, 42, 43, 44, 45, 46, 47, 48, 0, 1, 2, 3, 4, 5, 6, 7, 8, 9, 10, 11, 12, 13, 14, 15, 16, 17, 18, 19, 20, 21, 49] rfl
  have hD := hD.sub (ws' := WA cI cF cL cZ h0 qy (if kTax (xs (i + 1)) = 0 then sTaxS a (xs (i + 1)) else a) jcy jsy jvy ky (capOf (nn ((if kTax (xs (i + 1)) = 0 then sTaxS a (xs (i + 1)) else a) 0 4))) h1 q2 a th qo fu) [22, 23, 24, 25, 26, 27, 28, 29, 30, 31, 32, 33, 34, 35, 36, 37, 38, 39, 40, 41, 42, 43, 44, 45, 46, 47, 48, 0, 1, 2, 3, 4, 5, 6, 7, 8, 9, 10, 11, 12, 13, 14, 15, 16, 17, 18, 19, 20, 21, 49] (by decide) rfl
  generalize H1 = H at hP hS ⊢
  refine y_topi (y := nI (kTax (xs (i + 1)))) hwL.1 ?_
  have hI1 : okA (if kTax (xs (i + 1)) = 0 then sTaxS a (xs (i + 1)) else a) (n + 1) := by
    split
    · next h9 => exact okA_tax hI hn h9
    · exact okA_up hI hn
  have hB1 := okA_B hI1
  refine lv_istore (lv' := [(5, .int (nI (kTax (xs (i + 1))))), (4, .int (nI i)), (3, .ref qo), (2, .ref h1), (1, .ref h0), (0, .ref b)]) hx hb dL_law_467 hl (by decide) rfl (fun ls hl => ?_)
  refine lv_aload_n hx hb dL_law_469 rfl (lv_at hl 3 rfl) ?_
  refine lv_aload_n hx hb dL_law_470 rfl (lv_at hl 5 rfl) ?_
  refine lv_iload hx hb dL_law_471 (lv_at hl 1 rfl) ?_
  refine lv_iconst (v := 1) hx hb dL_law_473 (by decide) ?_
  refine lv_iadd hx hb dL_law_474 ?_
  refine y_topi (y := nI (i + 1)) (by first | exact nI_1 i | exact nI_add i 1) ?_
  refine va_sld hx hb hX hbl hbA hS (vp_in_nI (by omega) (by omega)) dL_law_475 ?_
  refine y_topi (y := xs (i + 1)) (by rw [nI_clamp (by omega)]) ?_
  have hPc := hP.sub (ws' := WM cI cF cZ h1 q2 a th) [27, 28, 29, 30, 31, 32, 33, 34, 35, 36, 37, 38, 39, 40, 41, 42, 43, 44, 45, 46, 47, 48] rfl
  have hDc := hD.sub (ws' := WM cI cF cZ h1 q2 a th) [27, 28, 29, 30, 31, 32, 33, 34, 35, 36, 37, 38, 39, 40, 41, 42, 43, 44, 45, 46, 47, 48] (by decide) rfl
  have hFc := va_free (wc := WM cI cF cZ h1 q2 a th) hD hS hA [27, 28, 29, 30, 31, 32, 33, 34, 35, 36, 37, 38, 39, 40, 41, 42, 43, 44, 45, 46, 47, 48] rfl
  have hKc := hK.sub (tys' := [(cI, .int), (cF, .float), (cZ, .boolean)]) [0, 1, 3] rfl
  refine va_calli (va_runV (As := [.int (xs (i + 1))]) (rest := []) ⟨hx, hb, hml, hown, hts⟩ (c_X5_setTax l dC dI cI cF cZ h1 q2 H.size a th hB (xs (i + 1))) (cwV 1 hts gL_law_X5_setTax rfl rfl rfl (by decide +kernel) ⟨Nat.le_of_ble_eq_true rfl, Nat.le_of_ble_eq_true rfl⟩) ⟨pcW_blind, va_recv hKc hPc (ci := 5) (q0 := 0) rfl rfl, fun U hU hW => pcW_pre hPc hDc hKc hU hW⟩ rfl rfl hl.1 rfl (lv_room (Nat.le_of_ble_eq_true rfl)) dL_law_476 ⟨(by show _ + 0 ≤ 601024; omega), (by show _ + 0 ≤ 7293034; omega)⟩) hS (fun q _ h => hFc q h) hFc (fun r u t H1 locs ht hvm hw hB1 hz1 hk1 hS => ?_)
  obtain ⟨hPy, hKy, hDy⟩ := hB1
  rw [ht] at hPy
  obtain ⟨hP, hD⟩ := va_join (wr := WL cI cF cL h0 qy (if kTax (xs (i + 1)) = 0 then sTaxS a (xs (i + 1)) else a) jcy jsy jvy ky (capOf (nn ((if kTax (xs (i + 1)) = 0 then sTaxS a (xs (i + 1)) else a) 0 4))) qo fu) (w1 := WM cI cF cZ h1 q2 (if kTax (xs (i + 1)) = 0 then sTaxS a (xs (i + 1)) else a) (nI (kTax (xs (i + 1))))) hP hD [27, 28, 29, 30, 31, 32, 33, 34, 35, 36, 37, 38, 39, 40, 41, 42, 43, 44, 45, 46, 47, 48] [0, 1, 2, 3, 4, 5, 6, 7, 8, 9, 10, 11, 12, 13, 14, 15, 16, 17, 18, 19, 20, 21, 22, 23, 24, 25, 26, 49] rfl rfl (by decide) (by decide) hk1 hFc hPy hDy
  have hP := hP.sub (ws' := WA cI cF cL cZ h0 qy (if kTax (xs (i + 1)) = 0 then sTaxS a (xs (i + 1)) else a) jcy jsy jvy ky (capOf (nn ((if kTax (xs (i + 1)) = 0 then sTaxS a (xs (i + 1)) else a) 0 4))) h1 q2 (if kTax (xs (i + 1)) = 0 then sTaxS a (xs (i + 1)) else a) (nI (kTax (xs (i + 1)))) qo fu) [0, 1, 2, 3, 4, 5, 6, 7, 8, 9, 10, 11, 12, 13, 14, 15, 16, 17, 18, 19, 20, 21, 22, 23, 24, 25, 26, 28, 29, 30, 31, 32, 33, 34, 35, 36, 37, 38, 39, 40, 41, 42, 43, 44, 45, 46, 47, 48, 49, 27] rfl
  have hD := hD.sub (ws' := WA cI cF cL cZ h0 qy (if kTax (xs (i + 1)) = 0 then sTaxS a (xs (i + 1)) else a) jcy jsy jvy ky (capOf (nn ((if kTax (xs (i + 1)) = 0 then sTaxS a (xs (i + 1)) else a) 0 4))) h1 q2 (if kTax (xs (i + 1)) = 0 then sTaxS a (xs (i + 1)) else a) (nI (kTax (xs (i + 1)))) qo fu) [0, 1, 2, 3, 4, 5, 6, 7, 8, 9, 10, 11, 12, 13, 14, 15, 16, 17, 18, 19, 20, 21, 22, 23, 24, 25, 26, 28, 29, 30, 31, 32, 33, 34, 35, 36, 37, 38, 39, 40, 41, 42, 43, 44, 45, 46, 47, 48, 49, 27] (by decide) rfl
  generalize H1 = H at hP hS ⊢
  have hwR := hw
  obtain ⟨rv, erv⟩ : ∃ z, z = r := ⟨_, rfl⟩
  rw [← erv] at hwR ⊢
  refine lv_istore (lv' := [(6, .int rv), (5, .int (nI (kTax (xs (i + 1))))), (4, .int (nI i)), (3, .ref qo), (2, .ref h1), (1, .ref h0), (0, .ref b)]) hx hb dL_law_479 hl (by decide) rfl (fun ls hl => ?_)
  refine lv_aload_n hx hb dL_law_481 rfl (lv_at hl 4 rfl) ?_
  have hPc := hP.sub (ws' := WM cI cF cZ h1 q2 (if kTax (xs (i + 1)) = 0 then sTaxS a (xs (i + 1)) else a) (nI (kTax (xs (i + 1))))) [27, 28, 29, 30, 31, 32, 33, 34, 35, 36, 37, 38, 39, 40, 41, 42, 43, 44, 45, 46, 47, 48] rfl
  have hDc := hD.sub (ws' := WM cI cF cZ h1 q2 (if kTax (xs (i + 1)) = 0 then sTaxS a (xs (i + 1)) else a) (nI (kTax (xs (i + 1))))) [27, 28, 29, 30, 31, 32, 33, 34, 35, 36, 37, 38, 39, 40, 41, 42, 43, 44, 45, 46, 47, 48] (by decide) rfl
  have hFc := va_free (wc := WM cI cF cZ h1 q2 (if kTax (xs (i + 1)) = 0 then sTaxS a (xs (i + 1)) else a) (nI (kTax (xs (i + 1))))) hD hS hA [27, 28, 29, 30, 31, 32, 33, 34, 35, 36, 37, 38, 39, 40, 41, 42, 43, 44, 45, 46, 47, 48] rfl
  have hKc := hK.sub (tys' := [(cI, .int), (cF, .float), (cZ, .boolean)]) [0, 1, 3] rfl
  refine va_calli (va_runV (As := []) (rest := []) ⟨hx, hb, hml, hown, hts⟩ (c_X5_thrown l dC dI cI cF cZ h1 q2 H.size (if kTax (xs (i + 1)) = 0 then sTaxS a (xs (i + 1)) else a) (nI (kTax (xs (i + 1)))) hB1) (cwV 0 hts gL_law_X5_thrown rfl rfl rfl (by decide +kernel) ⟨Nat.le_of_ble_eq_true rfl, Nat.le_of_ble_eq_true rfl⟩) ⟨pcW_blind, va_recv hKc hPc (ci := 5) (q0 := 0) rfl rfl, fun U hU hW => pcW_pre hPc hDc hKc hU hW⟩ rfl rfl hl.1 rfl (lv_room (Nat.le_of_ble_eq_true rfl)) dL_law_482 ⟨(by show _ + 0 ≤ 601024; omega), (by show _ + 0 ≤ 7293034; omega)⟩) hS (fun q _ h => hFc q h) hFc (fun r u t H1 locs ht hvm hw hB1 hz1 hk1 hS => ?_)
  obtain ⟨hPy, hKy, hDy⟩ := hB1
  rw [ht] at hPy
  obtain ⟨hP, hD⟩ := va_join (wr := WL cI cF cL h0 qy (if kTax (xs (i + 1)) = 0 then sTaxS a (xs (i + 1)) else a) jcy jsy jvy ky (capOf (nn ((if kTax (xs (i + 1)) = 0 then sTaxS a (xs (i + 1)) else a) 0 4))) qo fu) (w1 := WM cI cF cZ h1 q2 (if kTax (xs (i + 1)) = 0 then sTaxS a (xs (i + 1)) else a) (nI (kTax (xs (i + 1))))) hP hD [27, 28, 29, 30, 31, 32, 33, 34, 35, 36, 37, 38, 39, 40, 41, 42, 43, 44, 45, 46, 47, 48] [0, 1, 2, 3, 4, 5, 6, 7, 8, 9, 10, 11, 12, 13, 14, 15, 16, 17, 18, 19, 20, 21, 22, 23, 24, 25, 26, 49] rfl rfl (by decide) (by decide) hk1 hFc hPy hDy
  have hP := hP.sub (ws' := WA cI cF cL cZ h0 qy (if kTax (xs (i + 1)) = 0 then sTaxS a (xs (i + 1)) else a) jcy jsy jvy ky (capOf (nn ((if kTax (xs (i + 1)) = 0 then sTaxS a (xs (i + 1)) else a) 0 4))) h1 q2 (if kTax (xs (i + 1)) = 0 then sTaxS a (xs (i + 1)) else a) (nI (kTax (xs (i + 1)))) qo fu) [0, 1, 2, 3, 4, 5, 6, 7, 8, 9, 10, 11, 12, 13, 14, 15, 16, 17, 18, 19, 20, 21, 22, 23, 24, 25, 26, 28, 29, 30, 31, 32, 33, 34, 35, 36, 37, 38, 39, 40, 41, 42, 43, 44, 45, 46, 47, 48, 49, 27] rfl
  have hD := hD.sub (ws' := WA cI cF cL cZ h0 qy (if kTax (xs (i + 1)) = 0 then sTaxS a (xs (i + 1)) else a) jcy jsy jvy ky (capOf (nn ((if kTax (xs (i + 1)) = 0 then sTaxS a (xs (i + 1)) else a) 0 4))) h1 q2 (if kTax (xs (i + 1)) = 0 then sTaxS a (xs (i + 1)) else a) (nI (kTax (xs (i + 1)))) qo fu) [0, 1, 2, 3, 4, 5, 6, 7, 8, 9, 10, 11, 12, 13, 14, 15, 16, 17, 18, 19, 20, 21, 22, 23, 24, 25, 26, 28, 29, 30, 31, 32, 33, 34, 35, 36, 37, 38, 39, 40, 41, 42, 43, 44, 45, 46, 47, 48, 49, 27] (by decide) rfl
  generalize H1 = H at hP hS ⊢
  refine y_topi (y := nI (kTax (xs (i + 1)))) hw ?_
  refine lv_iload hx hb dL_law_485 (lv_at hl 1 rfl) ?_
  refine lv_icmp_eq (tgt := 492) hx hb dL_law_487 (by decide) (fun c_1 => ?_) (fun c_1 => ?_)
  · refine lv_iload hx hb dL_law_492 (lv_at hl 1 rfl) ?_
    refine lv_if_ne (tgt := 509) hx hb dL_law_494 (by decide) (fun c_2 => ?_) (fun c_2 => ?_)
    · refine lv_goto (tgt := 1294) hx hb dL_law_509 (by decide) ?_
      refine W.widen (k := cells + 1026) (n := slots + 6156) (by omega) (by omega) ?_
      exact K _ qy jcy jsy jvy ky _ _ _ _ _ hI1 hCy hP hD hS (lv_sub hl [2, 3, 4, 5, 6] rfl)
    · have hK0 : kTax (xs (i + 1)) = 0 := by
        rcases kTax_r (xs (i + 1)) with h9 | h9 <;> first | exact h9 | (rw [h9] at c_2; exact absurd c_2 (by decide))
      refine lv_aload_n hx hb dL_law_497 rfl (lv_at hl 3 rfl) ?_
      refine lv_iconst (v := 0) hx hb dL_law_498 (by decide) ?_
      refine y_lld hx hb hK hP 49 2 rfl rfl dL_law_499 ?_
      refine lv_iload hx hb dL_law_500 (lv_at hl 0 rfl) ?_
      refine lv_i2l (v := (rv).toInt64) hx hb dL_law_502 rfl ?_
      refine y_lcmp hx hb (by rw [hwL.2 hK0, hwR hK0]) dL_law_503 ?_
      refine lv_if_eq (tgt := 509) hx hb dL_law_504 (by decide) (fun c_3 => ?_) (fun c_3 => ?_)
      · refine lv_goto (tgt := 1294) hx hb dL_law_509 (by decide) ?_
        refine W.widen (k := cells + 1026) (n := slots + 6156) (by omega) (by omega) ?_
        exact K _ qy jcy jsy jvy ky _ _ _ _ _ hI1 hCy hP hD hS (lv_sub hl [2, 3, 4, 5, 6] rfl)
      · exact absurd rfl c_3
  · exact absurd rfl c_1
set_option maxHeartbeats 4000000 in
set_option maxRecDepth 100000 in
theorem lc_sell {p : Program} {l : Launch} {e : Env} {s : State} {m : MethodId} {below : List Frame} {meth : Method} {c : Code} {Q : State → Prop} {b L i n : Nat} {xs : Nat → Int32} {dC : Nat → ClassId} {dI : Nat → Nat → Nat} {cI cF cL cZ : ClassId} {A : Nat → Prop} (hst : l.stackTraces = false) (hx : p.tables.exec = Jvm.exec) (hb : c.code = cL_law) (hml : c.maxLocals = 7) (hown : s.vm.findClass RL = some m.cls) (hts : ∀ w ∈ wsL_law, w.before #[Value.ref b] s = true) (hX : va_X b L xs s s.heap) (hbl : b < s.heap.size) (hbA : ¬ A b) (hA : ∀ q : Nat, s.heap.size ≤ q → A q) (hK : va_K (dC, dI) vwCl [(cI, .int), (cF, .float), (cL, .long), (cZ, .boolean)] s) (hV : okV A s) (hN : okN3 s) {a : yA} (hI : okA a n) (hn : n < 512) (hi : i + 3 < L) (hL : L ≤ 2048) {h0 h1 qo : Nat} {q q2 : Nat → Nat} {jc js jv : Nat → Int32} {k : Nat} {th : Int32} {fo : Nat → Int64} {H : Heap} {locs : List Loc} {cells slots : Nat} {ls : Array Slot} (hC : okC a jc js jv k) (hP : va_P (dC, dI) vwCl (WA cI cF cL cZ h0 q a jc js jv k (capOf (nn (a 0 4))) h1 q2 a th qo fo) H) (hD : va_D A (WA cI cF cL cZ h0 q a jc js jv k (capOf (nn (a 0 4))) h1 q2 a th qo fo)) (hS : va_S A s.heap H locs) (hl : lv_has ls 7 [(4, .int (nI i)), (3, .ref qo), (2, .ref h1), (1, .ref h0), (0, .ref b)]) (hc : cells ≤ 100 + 1026 * n) (hs : slots ≤ 9000 + 6156 * n) (K : ∀ (a1 : yA) (q1 : Nat → Nat) (jc1 js1 jv1 : Nat → Int32) (k1 : Nat) (th1 : Int32) (fo1 : Nat → Int64) (H1 : Heap) (locs1 : List Loc) (ls1 : Array Slot), okA a1 (n + 1) → okC a1 jc1 js1 jv1 k1 → va_P (dC, dI) vwCl (WA cI cF cL cZ h0 q1 a1 jc1 js1 jv1 k1 (capOf (nn (a1 0 4))) h1 q2 a1 th1 qo fo1) H1 → va_D A (WA cI cF cL cZ h0 q1 a1 jc1 js1 jv1 k1 (capOf (nn (a1 0 4))) h1 q2 a1 th1 qo fo1) → va_S A s.heap H1 locs1 → lv_has ls1 7 [(4, .int (nI i)), (3, .ref qo), (2, .ref h1), (1, .ref h0), (0, .ref b)] → W p l e room_1 s m #[Value.ref b] below meth c H1 locs1 (cells + 1026) (slots + 6156) Q (F0 m 1294 ls1 [])) : W p l e room_1 s m #[Value.ref b] below meth c H locs cells slots Q (F0 m 512 ls []) := by
  have hB := okA_B hI
  refine lv_aload_n hx hb dL_law_512 rfl (lv_at hl 3 rfl) ?_
  refine lv_aload_n hx hb dL_law_513 rfl (lv_at hl 4 rfl) ?_
  refine lv_iload hx hb dL_law_514 (lv_at hl 0 rfl) ?_
  refine lv_iconst (v := 1) hx hb dL_law_516 (by decide) ?_
  refine lv_iadd hx hb dL_law_517 ?_
  refine y_topi (y := nI (i + 1)) (by first | exact nI_1 i | exact nI_add i 1) ?_
  refine va_sld hx hb hX hbl hbA hS (vp_in_nI (by omega) (by omega)) dL_law_518 ?_
  refine y_topi (y := xs (i + 1)) (by rw [nI_clamp (by omega)]) ?_
  refine lv_aload_n hx hb dL_law_519 rfl (lv_at hl 4 rfl) ?_
  refine lv_iload hx hb dL_law_520 (lv_at hl 0 rfl) ?_
  refine lv_iconst (v := 2) hx hb dL_law_522 (by decide) ?_
  refine lv_iadd hx hb dL_law_523 ?_
  refine y_topi (y := nI (i + 2)) (by first | exact nI_1 i | exact nI_add i 2) ?_
  refine va_sld hx hb hX hbl hbA hS (vp_in_nI (by omega) (by omega)) dL_law_524 ?_
  refine y_topi (y := xs (i + 2)) (by rw [nI_clamp (by omega)]) ?_
  refine lv_aload_n hx hb dL_law_525 rfl (lv_at hl 4 rfl) ?_
  refine lv_iload hx hb dL_law_526 (lv_at hl 0 rfl) ?_
  refine lv_iconst (v := 3) hx hb dL_law_528 (by decide) ?_
  refine lv_iadd hx hb dL_law_529 ?_
  refine y_topi (y := nI (i + 3)) (by first | exact nI_1 i | exact nI_add i 3) ?_
  refine va_sld hx hb hX hbl hbA hS (vp_in_nI (by omega) (by omega)) dL_law_530 ?_
  refine y_topi (y := xs (i + 3)) (by rw [nI_clamp (by omega)]) ?_
  refine lv_aload_n hx hb dL_law_531 rfl (lv_at hl 1 rfl) ?_
  have hPc := hP.sub (ws' := WL cI cF cL h0 q a jc js jv k (capOf (nn (a 0 4))) qo fo) [0, 1, 2, 3, 4, 5, 6, 7, 8, 9, 10, 11, 12, 13, 14, 15, 16, 17, 18, 19, 20, 21, 22, 23, 24, 25, 26, 49] rfl
  have hDc := hD.sub (ws' := WL cI cF cL h0 q a jc js jv k (capOf (nn (a 0 4))) qo fo) [0, 1, 2, 3, 4, 5, 6, 7, 8, 9, 10, 11, 12, 13, 14, 15, 16, 17, 18, 19, 20, 21, 22, 23, 24, 25, 26, 49] (by decide) rfl
  have hFc := va_free (wc := WL cI cF cL h0 q a jc js jv k (capOf (nn (a 0 4))) qo fo) hD hS hA [0, 1, 2, 3, 4, 5, 6, 7, 8, 9, 10, 11, 12, 13, 14, 15, 16, 17, 18, 19, 20, 21, 22, 23, 24, 25, 26, 49] rfl
  have hKc := hK.sub (tys' := [(cI, .int), (cF, .float), (cL, .long)]) [0, 1, 2] rfl
  refine va_calli (vx_runSW (As := [.ref h0, .int (xs (i + 1)), .int (xs (i + 2)), .int (xs (i + 3)), .ref qo]) (rest := []) ⟨hx, hb, hml, hown, hts⟩ (c_L_sell l dC dI cI cF cL h0 qo q H.size a jc js jv k fo hst hC hB hI.2.1 (xs (i + 1)) (xs (i + 2)) (xs (i + 3))) (vx_cwSW 5 hts gL_law_L_sell rfl rfl rfl (by decide +kernel) ⟨Nat.le_of_ble_eq_true rfl, Nat.le_of_ble_eq_true rfl⟩) ⟨pcH_blind, fun U hU hW => pcH_pre hPc hDc hKc hV hN hS hFc hU hW⟩ rfl rfl hl.1 rfl (lv_room (Nat.le_of_ble_eq_true rfl)) dL_law_532 ⟨(by show cells + (4) ≤ 601024; omega), (by show slots + (24) ≤ 7293034; omega)⟩) hS (fun q _ h => hFc q h) hFc (fun r fu t H1 locs ht hvm hw hB1 hz1 hk1 hS => ?_)
  obtain ⟨qy, jcy, jsy, jvy, ky, hCy, hPy, hKy, hDy⟩ := hB1
  rw [ht] at hPy
  have hwL := hw
  obtain ⟨hP, hD⟩ := va_join (wr := (WM cI cF cZ h1 q2 a th)) (w1 := WL cI cF cL h0 qy (if kSell a (xs (i + 1)) (xs (i + 2)) (xs (i + 3)) = 0 then sSell a (xs (i + 1)) (xs (i + 2)) (xs (i + 3)) else a) jcy jsy jvy ky (capOf (nn ((if kSell a (xs (i + 1)) (xs (i + 2)) (xs (i + 3)) = 0 then sSell a (xs (i + 1)) (xs (i + 2)) (xs (i + 3)) else a) 0 4))) qo fu) hP hD [0, 1, 2, 3, 4, 5, 6, 7, 8, 9, 10, 11, 12, 13, 14, 15, 16, 17, 18, 19, 20, 21, 22, 23, 24, 25, 26, 49] [27, 28, 29, 30, 31, 32, 33, 34, 35, 36, 37, 38, 39, 40, 41, 42, 43, 44, 45, 46, 47, 48] rfl rfl (by decide) (by decide) hk1 hFc hPy hDy
  have hP := hP.sub (ws' := WA cI cF cL cZ h0 qy (if kSell a (xs (i + 1)) (xs (i + 2)) (xs (i + 3)) = 0 then sSell a (xs (i + 1)) (xs (i + 2)) (xs (i + 3)) else a) jcy jsy jvy ky (capOf (nn ((if kSell a (xs (i + 1)) (xs (i + 2)) (xs (i + 3)) = 0 then sSell a (xs (i + 1)) (xs (i + 2)) (xs (i + 3)) else a) 0 4))) h1 q2 a th qo fu) [22, 23, 24, 25, 26, 27, 28, 29, 30, 31, 32, 33, 34, 35, 36, 37, 38, 39, 40, 41, 42, 43, 44, 45, 46, 47, 48, 0, 1, 2, 3, 4, 5, 6, 7, 8, 9, 10, 11, 12, 13, 14, 15, 16, 17, 18, 19, 20, 21, 49] rfl
  have hD := hD.sub (ws' := WA cI cF cL cZ h0 qy (if kSell a (xs (i + 1)) (xs (i + 2)) (xs (i + 3)) = 0 then sSell a (xs (i + 1)) (xs (i + 2)) (xs (i + 3)) else a) jcy jsy jvy ky (capOf (nn ((if kSell a (xs (i + 1)) (xs (i + 2)) (xs (i + 3)) = 0 then sSell a (xs (i + 1)) (xs (i + 2)) (xs (i + 3)) else a) 0 4))) h1 q2 a th qo fu) [22, 23, 24, 25, 26, 27, 28, 29, 30, 31, 32, 33, 34, 35, 36, 37, 38, 39, 40, 41, 42, 43, 44, 45, 46, 47, 48, 0, 1, 2, 3, 4, 5, 6, 7, 8, 9, 10, 11, 12, 13, 14, 15, 16, 17, 18, 19, 20, 21, 49] (by decide) rfl
  generalize H1 = H at hP hS ⊢
  refine y_topi (y := nI (kSell a (xs (i + 1)) (xs (i + 2)) (xs (i + 3)))) hwL.1 ?_
  have hI1 : okA (if kSell a (xs (i + 1)) (xs (i + 2)) (xs (i + 3)) = 0 then sSell a (xs (i + 1)) (xs (i + 2)) (xs (i + 3)) else a) (n + 1) := by
    split
    · next h9 => exact okA_sell hI hn h9
    · exact okA_up hI hn
  have hB1 := okA_B hI1
  refine lv_istore (lv' := [(5, .int (nI (kSell a (xs (i + 1)) (xs (i + 2)) (xs (i + 3))))), (4, .int (nI i)), (3, .ref qo), (2, .ref h1), (1, .ref h0), (0, .ref b)]) hx hb dL_law_535 hl (by decide) rfl (fun ls hl => ?_)
  refine lv_aload_n hx hb dL_law_537 rfl (lv_at hl 3 rfl) ?_
  refine lv_aload_n hx hb dL_law_538 rfl (lv_at hl 5 rfl) ?_
  refine lv_iload hx hb dL_law_539 (lv_at hl 1 rfl) ?_
  refine lv_iconst (v := 1) hx hb dL_law_541 (by decide) ?_
  refine lv_iadd hx hb dL_law_542 ?_
  refine y_topi (y := nI (i + 1)) (by first | exact nI_1 i | exact nI_add i 1) ?_
  refine va_sld hx hb hX hbl hbA hS (vp_in_nI (by omega) (by omega)) dL_law_543 ?_
  refine y_topi (y := xs (i + 1)) (by rw [nI_clamp (by omega)]) ?_
  refine lv_aload_n hx hb dL_law_544 rfl (lv_at hl 5 rfl) ?_
  refine lv_iload hx hb dL_law_545 (lv_at hl 1 rfl) ?_
  refine lv_iconst (v := 2) hx hb dL_law_547 (by decide) ?_
  refine lv_iadd hx hb dL_law_548 ?_
  refine y_topi (y := nI (i + 2)) (by first | exact nI_1 i | exact nI_add i 2) ?_
  refine va_sld hx hb hX hbl hbA hS (vp_in_nI (by omega) (by omega)) dL_law_549 ?_
  refine y_topi (y := xs (i + 2)) (by rw [nI_clamp (by omega)]) ?_
  refine lv_aload_n hx hb dL_law_550 rfl (lv_at hl 5 rfl) ?_
  refine lv_iload hx hb dL_law_551 (lv_at hl 1 rfl) ?_
  refine lv_iconst (v := 3) hx hb dL_law_553 (by decide) ?_
  refine lv_iadd hx hb dL_law_554 ?_
  refine y_topi (y := nI (i + 3)) (by first | exact nI_1 i | exact nI_add i 3) ?_
  refine va_sld hx hb hX hbl hbA hS (vp_in_nI (by omega) (by omega)) dL_law_555 ?_
  refine y_topi (y := xs (i + 3)) (by rw [nI_clamp (by omega)]) ?_
  have hPc := hP.sub (ws' := WM cI cF cZ h1 q2 a th) [27, 28, 29, 30, 31, 32, 33, 34, 35, 36, 37, 38, 39, 40, 41, 42, 43, 44, 45, 46, 47, 48] rfl
  have hDc := hD.sub (ws' := WM cI cF cZ h1 q2 a th) [27, 28, 29, 30, 31, 32, 33, 34, 35, 36, 37, 38, 39, 40, 41, 42, 43, 44, 45, 46, 47, 48] (by decide) rfl
  have hFc := va_free (wc := WM cI cF cZ h1 q2 a th) hD hS hA [27, 28, 29, 30, 31, 32, 33, 34, 35, 36, 37, 38, 39, 40, 41, 42, 43, 44, 45, 46, 47, 48] rfl
  have hKc := hK.sub (tys' := [(cI, .int), (cF, .float), (cZ, .boolean)]) [0, 1, 3] rfl
  refine va_calli (va_runV (As := [.int (xs (i + 1)), .int (xs (i + 2)), .int (xs (i + 3))]) (rest := []) ⟨hx, hb, hml, hown, hts⟩ (c_X5_sell l dC dI cI cF cZ h1 q2 H.size a th hB (xs (i + 1)) (xs (i + 2)) (xs (i + 3))) (cwV 3 hts gL_law_X5_sell rfl rfl rfl (by decide +kernel) ⟨Nat.le_of_ble_eq_true rfl, Nat.le_of_ble_eq_true rfl⟩) ⟨pcW_blind, va_recv hKc hPc (ci := 5) (q0 := 0) rfl rfl, fun U hU hW => pcW_pre hPc hDc hKc hU hW⟩ rfl rfl hl.1 rfl (lv_room (Nat.le_of_ble_eq_true rfl)) dL_law_556 ⟨(by show _ + 0 ≤ 601024; omega), (by show _ + 0 ≤ 7293034; omega)⟩) hS (fun q _ h => hFc q h) hFc (fun r u t H1 locs ht hvm hw hB1 hz1 hk1 hS => ?_)
  obtain ⟨hPy, hKy, hDy⟩ := hB1
  rw [ht] at hPy
  obtain ⟨hP, hD⟩ := va_join (wr := WL cI cF cL h0 qy (if kSell a (xs (i + 1)) (xs (i + 2)) (xs (i + 3)) = 0 then sSell a (xs (i + 1)) (xs (i + 2)) (xs (i + 3)) else a) jcy jsy jvy ky (capOf (nn ((if kSell a (xs (i + 1)) (xs (i + 2)) (xs (i + 3)) = 0 then sSell a (xs (i + 1)) (xs (i + 2)) (xs (i + 3)) else a) 0 4))) qo fu) (w1 := WM cI cF cZ h1 q2 (if kSell a (xs (i + 1)) (xs (i + 2)) (xs (i + 3)) = 0 then sSell a (xs (i + 1)) (xs (i + 2)) (xs (i + 3)) else a) (nI (kSell a (xs (i + 1)) (xs (i + 2)) (xs (i + 3))))) hP hD [27, 28, 29, 30, 31, 32, 33, 34, 35, 36, 37, 38, 39, 40, 41, 42, 43, 44, 45, 46, 47, 48] [0, 1, 2, 3, 4, 5, 6, 7, 8, 9, 10, 11, 12, 13, 14, 15, 16, 17, 18, 19, 20, 21, 22, 23, 24, 25, 26, 49] rfl rfl (by decide) (by decide) hk1 hFc hPy hDy
  have hP := hP.sub (ws' := WA cI cF cL cZ h0 qy (if kSell a (xs (i + 1)) (xs (i + 2)) (xs (i + 3)) = 0 then sSell a (xs (i + 1)) (xs (i + 2)) (xs (i + 3)) else a) jcy jsy jvy ky (capOf (nn ((if kSell a (xs (i + 1)) (xs (i + 2)) (xs (i + 3)) = 0 then sSell a (xs (i + 1)) (xs (i + 2)) (xs (i + 3)) else a) 0 4))) h1 q2 (if kSell a (xs (i + 1)) (xs (i + 2)) (xs (i + 3)) = 0 then sSell a (xs (i + 1)) (xs (i + 2)) (xs (i + 3)) else a) (nI (kSell a (xs (i + 1)) (xs (i + 2)) (xs (i + 3)))) qo fu) [0, 1, 2, 3, 4, 5, 6, 7, 8, 9, 10, 11, 12, 13, 14, 15, 16, 17, 18, 19, 20, 21, 22, 23, 24, 25, 26, 28, 29, 30, 31, 32, 33, 34, 35, 36, 37, 38, 39, 40, 41, 42, 43, 44, 45, 46, 47, 48, 49, 27] rfl
  have hD := hD.sub (ws' := WA cI cF cL cZ h0 qy (if kSell a (xs (i + 1)) (xs (i + 2)) (xs (i + 3)) = 0 then sSell a (xs (i + 1)) (xs (i + 2)) (xs (i + 3)) else a) jcy jsy jvy ky (capOf (nn ((if kSell a (xs (i + 1)) (xs (i + 2)) (xs (i + 3)) = 0 then sSell a (xs (i + 1)) (xs (i + 2)) (xs (i + 3)) else a) 0 4))) h1 q2 (if kSell a (xs (i + 1)) (xs (i + 2)) (xs (i + 3)) = 0 then sSell a (xs (i + 1)) (xs (i + 2)) (xs (i + 3)) else a) (nI (kSell a (xs (i + 1)) (xs (i + 2)) (xs (i + 3)))) qo fu) [0, 1, 2, 3, 4, 5, 6, 7, 8, 9, 10, 11, 12, 13, 14, 15, 16, 17, 18, 19, 20, 21, 22, 23, 24, 25, 26, 28, 29, 30, 31, 32, 33, 34, 35, 36, 37, 38, 39, 40, 41, 42, 43, 44, 45, 46, 47, 48, 49, 27] (by decide) rfl
  generalize H1 = H at hP hS ⊢
  have hwR := hw
  obtain ⟨rv, erv⟩ : ∃ z, z = r := ⟨_, rfl⟩
  rw [← erv] at hwR ⊢
  refine lv_istore (lv' := [(6, .int rv), (5, .int (nI (kSell a (xs (i + 1)) (xs (i + 2)) (xs (i + 3))))), (4, .int (nI i)), (3, .ref qo), (2, .ref h1), (1, .ref h0), (0, .ref b)]) hx hb dL_law_559 hl (by decide) rfl (fun ls hl => ?_)
  refine lv_aload_n hx hb dL_law_561 rfl (lv_at hl 4 rfl) ?_
  have hPc := hP.sub (ws' := WM cI cF cZ h1 q2 (if kSell a (xs (i + 1)) (xs (i + 2)) (xs (i + 3)) = 0 then sSell a (xs (i + 1)) (xs (i + 2)) (xs (i + 3)) else a) (nI (kSell a (xs (i + 1)) (xs (i + 2)) (xs (i + 3))))) [27, 28, 29, 30, 31, 32, 33, 34, 35, 36, 37, 38, 39, 40, 41, 42, 43, 44, 45, 46, 47, 48] rfl
  have hDc := hD.sub (ws' := WM cI cF cZ h1 q2 (if kSell a (xs (i + 1)) (xs (i + 2)) (xs (i + 3)) = 0 then sSell a (xs (i + 1)) (xs (i + 2)) (xs (i + 3)) else a) (nI (kSell a (xs (i + 1)) (xs (i + 2)) (xs (i + 3))))) [27, 28, 29, 30, 31, 32, 33, 34, 35, 36, 37, 38, 39, 40, 41, 42, 43, 44, 45, 46, 47, 48] (by decide) rfl
  have hFc := va_free (wc := WM cI cF cZ h1 q2 (if kSell a (xs (i + 1)) (xs (i + 2)) (xs (i + 3)) = 0 then sSell a (xs (i + 1)) (xs (i + 2)) (xs (i + 3)) else a) (nI (kSell a (xs (i + 1)) (xs (i + 2)) (xs (i + 3))))) hD hS hA [27, 28, 29, 30, 31, 32, 33, 34, 35, 36, 37, 38, 39, 40, 41, 42, 43, 44, 45, 46, 47, 48] rfl
  have hKc := hK.sub (tys' := [(cI, .int), (cF, .float), (cZ, .boolean)]) [0, 1, 3] rfl
  refine va_calli (va_runV (As := []) (rest := []) ⟨hx, hb, hml, hown, hts⟩ (c_X5_thrown l dC dI cI cF cZ h1 q2 H.size (if kSell a (xs (i + 1)) (xs (i + 2)) (xs (i + 3)) = 0 then sSell a (xs (i + 1)) (xs (i + 2)) (xs (i + 3)) else a) (nI (kSell a (xs (i + 1)) (xs (i + 2)) (xs (i + 3)))) hB1) (cwV 0 hts gL_law_X5_thrown rfl rfl rfl (by decide +kernel) ⟨Nat.le_of_ble_eq_true rfl, Nat.le_of_ble_eq_true rfl⟩) ⟨pcW_blind, va_recv hKc hPc (ci := 5) (q0 := 0) rfl rfl, fun U hU hW => pcW_pre hPc hDc hKc hU hW⟩ rfl rfl hl.1 rfl (lv_room (Nat.le_of_ble_eq_true rfl)) dL_law_562 ⟨(by show _ + 0 ≤ 601024; omega), (by show _ + 0 ≤ 7293034; omega)⟩) hS (fun q _ h => hFc q h) hFc (fun r u t H1 locs ht hvm hw hB1 hz1 hk1 hS => ?_)
  obtain ⟨hPy, hKy, hDy⟩ := hB1
  rw [ht] at hPy
  obtain ⟨hP, hD⟩ := va_join (wr := WL cI cF cL h0 qy (if kSell a (xs (i + 1)) (xs (i + 2)) (xs (i + 3)) = 0 then sSell a (xs (i + 1)) (xs (i + 2)) (xs (i + 3)) else a) jcy jsy jvy ky (capOf (nn ((if kSell a (xs (i + 1)) (xs (i + 2)) (xs (i + 3)) = 0 then sSell a (xs (i + 1)) (xs (i + 2)) (xs (i + 3)) else a) 0 4))) qo fu) (w1 := WM cI cF cZ h1 q2 (if kSell a (xs (i + 1)) (xs (i + 2)) (xs (i + 3)) = 0 then sSell a (xs (i + 1)) (xs (i + 2)) (xs (i + 3)) else a) (nI (kSell a (xs (i + 1)) (xs (i + 2)) (xs (i + 3))))) hP hD [27, 28, 29, 30, 31, 32, 33, 34, 35, 36, 37, 38, 39, 40, 41, 42, 43, 44, 45, 46, 47, 48] [0, 1, 2, 3, 4, 5, 6, 7, 8, 9, 10, 11, 12, 13, 14, 15, 16, 17, 18, 19, 20, 21, 22, 23, 24, 25, 26, 49] rfl rfl (by decide) (by decide) hk1 hFc hPy hDy
  have hP := hP.sub (ws' := WA cI cF cL cZ h0 qy (if kSell a (xs (i + 1)) (xs (i + 2)) (xs (i + 3)) = 0 then sSell a (xs (i + 1)) (xs (i + 2)) (xs (i + 3)) else a) jcy jsy jvy ky (capOf (nn ((if kSell a (xs (i + 1)) (xs (i + 2)) (xs (i + 3)) = 0 then sSell a (xs (i + 1)) (xs (i + 2)) (xs (i + 3)) else a) 0 4))) h1 q2 (if kSell a (xs (i + 1)) (xs (i + 2)) (xs (i + 3)) = 0 then sSell a (xs (i + 1)) (xs (i + 2)) (xs (i + 3)) else a) (nI (kSell a (xs (i + 1)) (xs (i + 2)) (xs (i + 3)))) qo fu) [0, 1, 2, 3, 4, 5, 6, 7, 8, 9, 10, 11, 12, 13, 14, 15, 16, 17, 18, 19, 20, 21, 22, 23, 24, 25, 26, 28, 29, 30, 31, 32, 33, 34, 35, 36, 37, 38, 39, 40, 41, 42, 43, 44, 45, 46, 47, 48, 49, 27] rfl
  have hD := hD.sub (ws' := WA cI cF cL cZ h0 qy (if kSell a (xs (i + 1)) (xs (i + 2)) (xs (i + 3)) = 0 then sSell a (xs (i + 1)) (xs (i + 2)) (xs (i + 3)) else a) jcy jsy jvy ky (capOf (nn ((if kSell a (xs (i + 1)) (xs (i + 2)) (xs (i + 3)) = 0 then sSell a (xs (i + 1)) (xs (i + 2)) (xs (i + 3)) else a) 0 4))) h1 q2 (if kSell a (xs (i + 1)) (xs (i + 2)) (xs (i + 3)) = 0 then sSell a (xs (i + 1)) (xs (i + 2)) (xs (i + 3)) else a) (nI (kSell a (xs (i + 1)) (xs (i + 2)) (xs (i + 3)))) qo fu) [0, 1, 2, 3, 4, 5, 6, 7, 8, 9, 10, 11, 12, 13, 14, 15, 16, 17, 18, 19, 20, 21, 22, 23, 24, 25, 26, 28, 29, 30, 31, 32, 33, 34, 35, 36, 37, 38, 39, 40, 41, 42, 43, 44, 45, 46, 47, 48, 49, 27] (by decide) rfl
  generalize H1 = H at hP hS ⊢
  refine y_topi (y := nI (kSell a (xs (i + 1)) (xs (i + 2)) (xs (i + 3)))) hw ?_
  refine lv_iload hx hb dL_law_565 (lv_at hl 1 rfl) ?_
  refine lv_icmp_eq (tgt := 572) hx hb dL_law_567 (by decide) (fun c_1 => ?_) (fun c_1 => ?_)
  · refine lv_iload hx hb dL_law_572 (lv_at hl 1 rfl) ?_
    refine lv_if_ne (tgt := 589) hx hb dL_law_574 (by decide) (fun c_2 => ?_) (fun c_2 => ?_)
    · refine lv_goto (tgt := 1294) hx hb dL_law_589 (by decide) ?_
      refine W.widen (k := cells + 1026) (n := slots + 6156) (by omega) (by omega) ?_
      exact K _ qy jcy jsy jvy ky _ _ _ _ _ hI1 hCy hP hD hS (lv_sub hl [2, 3, 4, 5, 6] rfl)
    · have hK0 : kSell a (xs (i + 1)) (xs (i + 2)) (xs (i + 3)) = 0 := by
        rcases kSell_r a (xs (i + 1)) (xs (i + 2)) (xs (i + 3)) with h9 | h9 | h9 | h9 <;> first | exact h9 | (rw [h9] at c_2; exact absurd c_2 (by decide))
      refine lv_aload_n hx hb dL_law_577 rfl (lv_at hl 3 rfl) ?_
      refine lv_iconst (v := 0) hx hb dL_law_578 (by decide) ?_
      refine y_lld hx hb hK hP 49 2 rfl rfl dL_law_579 ?_
      refine lv_iload hx hb dL_law_580 (lv_at hl 0 rfl) ?_
      refine lv_i2l (v := (rv).toInt64) hx hb dL_law_582 rfl ?_
      refine y_lcmp hx hb (by rw [hwL.2 hK0, hwR hK0]) dL_law_583 ?_
      refine lv_if_eq (tgt := 589) hx hb dL_law_584 (by decide) (fun c_3 => ?_) (fun c_3 => ?_)
      · refine lv_goto (tgt := 1294) hx hb dL_law_589 (by decide) ?_
        refine W.widen (k := cells + 1026) (n := slots + 6156) (by omega) (by omega) ?_
        exact K _ qy jcy jsy jvy ky _ _ _ _ _ hI1 hCy hP hD hS (lv_sub hl [2, 3, 4, 5, 6] rfl)
      · exact absurd rfl c_3
  · exact absurd rfl c_1
