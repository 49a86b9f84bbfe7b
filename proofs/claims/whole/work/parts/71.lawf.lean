set_option maxHeartbeats 4000000 in
set_option maxRecDepth 100000 in
theorem lc_balanceByEntries {p : Program} {l : Launch} {e : Env} {s : State} {m : MethodId} {below : List Frame} {meth : Method} {c : Code} {Q : State → Prop} {b L i n : Nat} {xs : Nat → Int32} {dC : Nat → ClassId} {dI : Nat → Nat → Nat} {cI cF cL cZ : ClassId} {A : Nat → Prop} (hst : l.stackTraces = false) (hx : p.tables.exec = Jvm.exec) (hb : c.code = cL_law) (hml : c.maxLocals = 7) (hown : s.vm.findClass RL = some m.cls) (hts : ∀ w ∈ wsL_law, w.before #[Value.ref b] s = true) (hX : va_X b L xs s s.heap) (hbl : b < s.heap.size) (hbA : ¬ A b) (hA : ∀ q : Nat, s.heap.size ≤ q → A q) (hK : va_K (dC, dI) vwCl [(cI, .int), (cF, .float), (cL, .long), (cZ, .boolean)] s) (hV : okV A s) (hN : okN3 s) {a : yA} (hI : okA a n) (hn : n < 512) (hi : i + 3 < L) (hL : L ≤ 2048) {h0 h1 qo : Nat} {q q2 : Nat → Nat} {jc js jv : Nat → Int32} {k : Nat} {th : Int32} {fo : Nat → Int64} {H : Heap} {locs : List Loc} {cells slots : Nat} {ls : Array Slot} (hC : okC a jc js jv k) (hP : va_P (dC, dI) vwCl (WA cI cF cL cZ h0 q a jc js jv k (capOf (nn (a 0 4))) h1 q2 a th qo fo) H) (hD : va_D A (WA cI cF cL cZ h0 q a jc js jv k (capOf (nn (a 0 4))) h1 q2 a th qo fo)) (hS : va_S A s.heap H locs) (hl : lv_has ls 7 [(4, .int (nI i)), (3, .ref qo), (2, .ref h1), (1, .ref h0), (0, .ref b)]) (hc : cells ≤ 100 + 1026 * n) (hs : slots ≤ 9000 + 6156 * n) (K : ∀ (a1 : yA) (q1 : Nat → Nat) (jc1 js1 jv1 : Nat → Int32) (k1 : Nat) (th1 : Int32) (fo1 : Nat → Int64) (H1 : Heap) (locs1 : List Loc) (ls1 : Array Slot), okA a1 (n + 1) → okC a1 jc1 js1 jv1 k1 → va_P (dC, dI) vwCl (WA cI cF cL cZ h0 q1 a1 jc1 js1 jv1 k1 (capOf (nn (a1 0 4))) h1 q2 a1 th1 qo fo1) H1 → va_D A (WA cI cF cL cZ h0 q1 a1 jc1 js1 jv1 k1 (capOf (nn (a1 0 4))) h1 q2 a1 th1 qo fo1) → va_S A s.heap H1 locs1 → lv_has ls1 7 [(4, .int (nI i)), (3, .ref qo), (2, .ref h1), (1, .ref h0), (0, .ref b)] → W p l e room_1 s m #[Value.ref b] below meth c H1 locs1 (cells + 1026) (slots + 6156) Q (F0 m 1294 ls1 [])) : W p l e room_1 s m #[Value.ref b] below meth c H locs cells slots Q (F0 m 1074 ls []) := by
  have hB := okA_B hI
  refine lv_aload_n hx hb dL_law_1074 rfl (lv_at hl 3 rfl) ?_
  refine lv_aload_n hx hb dL_law_1075 rfl (lv_at hl 4 rfl) ?_
  refine lv_iload hx hb dL_law_1076 (lv_at hl 0 rfl) ?_
  refine lv_iconst (v := 1) hx hb dL_law_1078 (by decide) ?_
  refine lv_iadd hx hb dL_law_1079 ?_
  refine y_topi (y := nI (i + 1)) (by first | exact nI_1 i | exact nI_add i 1) ?_
  refine va_sld hx hb hX hbl hbA hS (vp_in_nI (by omega) (by omega)) dL_law_1080 ?_
  refine y_topi (y := xs (i + 1)) (by rw [nI_clamp (by omega)]) ?_
  refine lv_aload_n hx hb dL_law_1081 rfl (lv_at hl 1 rfl) ?_
  have hPc := hP.sub (ws' := WL cI cF cL h0 q a jc js jv k (capOf (nn (a 0 4))) qo fo) [0, 1, 2, 3, 4, 5, 6, 7, 8, 9, 10, 11, 12, 13, 14, 15, 16, 17, 18, 19, 20, 21, 22, 23, 24, 25, 26, 49] rfl
  have hDc := hD.sub (ws' := WL cI cF cL h0 q a jc js jv k (capOf (nn (a 0 4))) qo fo) [0, 1, 2, 3, 4, 5, 6, 7, 8, 9, 10, 11, 12, 13, 14, 15, 16, 17, 18, 19, 20, 21, 22, 23, 24, 25, 26, 49] (by decide) rfl
  have hFc := va_free (wc := WL cI cF cL h0 q a jc js jv k (capOf (nn (a 0 4))) qo fo) hD hS hA [0, 1, 2, 3, 4, 5, 6, 7, 8, 9, 10, 11, 12, 13, 14, 15, 16, 17, 18, 19, 20, 21, 22, 23, 24, 25, 26, 49] rfl
  have hKc := hK.sub (tys' := [(cI, .int), (cF, .float), (cL, .long)]) [0, 1, 2] rfl
  refine va_calli (vx_runSW (As := [.ref h0, .int (xs (i + 1)), .ref qo]) (rest := []) ⟨hx, hb, hml, hown, hts⟩ (c_L_balanceByEntries l dC dI cI cF cL h0 qo q H.size a jc js jv k fo hst hC hB (xs (i + 1))) (vx_cwSW 3 hts gL_law_L_balanceByEntries rfl rfl rfl (by decide +kernel) ⟨Nat.le_of_ble_eq_true rfl, Nat.le_of_ble_eq_true rfl⟩) ⟨pcH_blind, fun U hU hW => pcH_pre hPc hDc hKc hV hN hS hFc hU hW⟩ rfl rfl hl.1 rfl (lv_room (Nat.le_of_ble_eq_true rfl)) dL_law_1082 ⟨(by show cells + (1) ≤ 601024; omega), (by show slots + (6) ≤ 7293034; omega)⟩) hS (fun q _ h => hFc q h) hFc (fun r fu t H1 locs ht hvm hw hB1 hz1 hk1 hS => ?_)
  obtain ⟨qy, jcy, jsy, jvy, ky, hCy, hPy, hKy, hDy⟩ := hB1
  rw [ht] at hPy
  have hwL := hw
  obtain ⟨hP, hD⟩ := va_join (wr := (WM cI cF cZ h1 q2 a th)) (w1 := WL cI cF cL h0 qy (if kSel a (xs (i + 1)) = 0 then a else a) jcy jsy jvy ky (capOf (nn ((if kSel a (xs (i + 1)) = 0 then a else a) 0 4))) qo fu) hP hD [0, 1, 2, 3, 4, 5, 6, 7, 8, 9, 10, 11, 12, 13, 14, 15, 16, 17, 18, 19, 20, 21, 22, 23, 24, 25, 26, 49] [27, 28, 29, 30, 31, 32, 33, 34, 35, 36, 37, 38, 39, 40, 41, 42, 43, 44, 45, 46, 47, 48] rfl rfl (by decide) (by decide) hk1 hFc hPy hDy
  have hP := hP.sub (ws' := WA cI cF cL cZ h0 qy (if kSel a (xs (i + 1)) = 0 then a else a) jcy jsy jvy ky (capOf (nn ((if kSel a (xs (i + 1)) = 0 then a else a) 0 4))) h1 q2 a th qo fu) [22, 23, 24, 25, 26, 27, 28, 29, 30, 31, 32, 33, 34, 35, 36, 37, 38, 39, 40, 41, 42, 43, 44, 45, 46, 47, 48, 0, 1, 2, 3, 4, 5, 6, 7, 8, 9, 10, 11, 12, 13, 14, 15, 16, 17, 18, 19, 20, 21, 49] rfl
  have hD := hD.sub (ws' := WA cI cF cL cZ h0 qy (if kSel a (xs (i + 1)) = 0 then a else a) jcy jsy jvy ky (capOf (nn ((if kSel a (xs (i + 1)) = 0 then a else a) 0 4))) h1 q2 a th qo fu) [22, 23, 24, 25, 26, 27, 28, 29, 30, 31, 32, 33, 34, 35, 36, 37, 38, 39, 40, 41, 42, 43, 44, 45, 46, 47, 48, 0, 1, 2, 3, 4, 5, 6, 7, 8, 9, 10, 11, 12, 13, 14, 15, 16, 17, 18, 19, 20, 21, 49] (by decide) rfl
  generalize H1 = H at hP hS ⊢
  refine y_topi (y := nI (kSel a (xs (i + 1)))) hwL.1 ?_
  have hI1 : okA (if kSel a (xs (i + 1)) = 0 then a else a) (n + 1) := by
    split
    · next h9 => exact okA_up hI hn
    · exact okA_up hI hn
  have hB1 := okA_B hI1
  refine lv_istore (lv' := [(5, .int (nI (kSel a (xs (i + 1))))), (4, .int (nI i)), (3, .ref qo), (2, .ref h1), (1, .ref h0), (0, .ref b)]) hx hb dL_law_1085 hl (by decide) rfl (fun ls hl => ?_)
  refine lv_aload_n hx hb dL_law_1087 rfl (lv_at hl 3 rfl) ?_
  refine lv_aload_n hx hb dL_law_1088 rfl (lv_at hl 5 rfl) ?_
  refine lv_iload hx hb dL_law_1089 (lv_at hl 1 rfl) ?_
  refine lv_iconst (v := 1) hx hb dL_law_1091 (by decide) ?_
  refine lv_iadd hx hb dL_law_1092 ?_
  refine y_topi (y := nI (i + 1)) (by first | exact nI_1 i | exact nI_add i 1) ?_
  refine va_sld hx hb hX hbl hbA hS (vp_in_nI (by omega) (by omega)) dL_law_1093 ?_
  refine y_topi (y := xs (i + 1)) (by rw [nI_clamp (by omega)]) ?_
  have hPc := hP.sub (ws' := WM cI cF cZ h1 q2 a th) [27, 28, 29, 30, 31, 32, 33, 34, 35, 36, 37, 38, 39, 40, 41, 42, 43, 44, 45, 46, 47, 48] rfl
  have hDc := hD.sub (ws' := WM cI cF cZ h1 q2 a th) [27, 28, 29, 30, 31, 32, 33, 34, 35, 36, 37, 38, 39, 40, 41, 42, 43, 44, 45, 46, 47, 48] (by decide) rfl
  have hFc := va_free (wc := WM cI cF cZ h1 q2 a th) hD hS hA [27, 28, 29, 30, 31, 32, 33, 34, 35, 36, 37, 38, 39, 40, 41, 42, 43, 44, 45, 46, 47, 48] rfl
  have hKc := hK.sub (tys' := [(cI, .int), (cF, .float), (cZ, .boolean)]) [0, 1, 3] rfl
  refine va_calli (va_runV (As := [.int (xs (i + 1))]) (rest := []) ⟨hx, hb, hml, hown, hts⟩ (c_X5_balanceByEntries l dC dI cI cF cZ h1 q2 H.size a th hB (xs (i + 1))) (cwV 1 hts gL_law_X5_balanceByEntries rfl rfl rfl (by decide +kernel) ⟨Nat.le_of_ble_eq_true rfl, Nat.le_of_ble_eq_true rfl⟩) ⟨pcW_blind, va_recv hKc hPc (ci := 5) (q0 := 0) rfl rfl, fun U hU hW => pcW_pre hPc hDc hKc hU hW⟩ rfl rfl hl.1 rfl (lv_room (Nat.le_of_ble_eq_true rfl)) dL_law_1094 ⟨(by show _ + 0 ≤ 601024; omega), (by show _ + 0 ≤ 7293034; omega)⟩) hS (fun q _ h => hFc q h) hFc (fun r u t H1 locs ht hvm hw hB1 hz1 hk1 hS => ?_)
  obtain ⟨hPy, hKy, hDy⟩ := hB1
  rw [ht] at hPy
  obtain ⟨hP, hD⟩ := va_join (wr := WL cI cF cL h0 qy (if kSel a (xs (i + 1)) = 0 then a else a) jcy jsy jvy ky (capOf (nn ((if kSel a (xs (i + 1)) = 0 then a else a) 0 4))) qo fu) (w1 := WM cI cF cZ h1 q2 a (nI (kSel a (xs (i + 1))))) hP hD [27, 28, 29, 30, 31, 32, 33, 34, 35, 36, 37, 38, 39, 40, 41, 42, 43, 44, 45, 46, 47, 48] [0, 1, 2, 3, 4, 5, 6, 7, 8, 9, 10, 11, 12, 13, 14, 15, 16, 17, 18, 19, 20, 21, 22, 23, 24, 25, 26, 49] rfl rfl (by decide) (by decide) hk1 hFc hPy hDy
  have hP := hP.sub (ws' := WA cI cF cL cZ h0 qy (if kSel a (xs (i + 1)) = 0 then a else a) jcy jsy jvy ky (capOf (nn ((if kSel a (xs (i + 1)) = 0 then a else a) 0 4))) h1 q2 a (nI (kSel a (xs (i + 1)))) qo fu) [0, 1, 2, 3, 4, 5, 6, 7, 8, 9, 10, 11, 12, 13, 14, 15, 16, 17, 18, 19, 20, 21, 22, 23, 24, 25, 26, 28, 29, 30, 31, 32, 33, 34, 35, 36, 37, 38, 39, 40, 41, 42, 43, 44, 45, 46, 47, 48, 49, 27] rfl
  have hD := hD.sub (ws' := WA cI cF cL cZ h0 qy (if kSel a (xs (i + 1)) = 0 then a else a) jcy jsy jvy ky (capOf (nn ((if kSel a (xs (i + 1)) = 0 then a else a) 0 4))) h1 q2 a (nI (kSel a (xs (i + 1)))) qo fu) [0, 1, 2, 3, 4, 5, 6, 7, 8, 9, 10, 11, 12, 13, 14, 15, 16, 17, 18, 19, 20, 21, 22, 23, 24, 25, 26, 28, 29, 30, 31, 32, 33, 34, 35, 36, 37, 38, 39, 40, 41, 42, 43, 44, 45, 46, 47, 48, 49, 27] (by decide) rfl
  generalize H1 = H at hP hS ⊢
  have hwR := hw
  have e9 : (if kSel a (xs (i + 1)) = 0 then a else a) = a := by split <;> rfl
  rw [e9] at hP hD hCy hI1 hB1
  obtain ⟨rv, erv⟩ : ∃ z, z = r := ⟨_, rfl⟩
  rw [← erv] at hwR ⊢
  refine lv_istore (lv' := [(6, .int rv), (5, .int (nI (kSel a (xs (i + 1))))), (4, .int (nI i)), (3, .ref qo), (2, .ref h1), (1, .ref h0), (0, .ref b)]) hx hb dL_law_1097 hl (by decide) rfl (fun ls hl => ?_)
  refine lv_aload_n hx hb dL_law_1099 rfl (lv_at hl 4 rfl) ?_
  have hPc := hP.sub (ws' := WM cI cF cZ h1 q2 a (nI (kSel a (xs (i + 1))))) [27, 28, 29, 30, 31, 32, 33, 34, 35, 36, 37, 38, 39, 40, 41, 42, 43, 44, 45, 46, 47, 48] rfl
  have hDc := hD.sub (ws' := WM cI cF cZ h1 q2 a (nI (kSel a (xs (i + 1))))) [27, 28, 29, 30, 31, 32, 33, 34, 35, 36, 37, 38, 39, 40, 41, 42, 43, 44, 45, 46, 47, 48] (by decide) rfl
  have hFc := va_free (wc := WM cI cF cZ h1 q2 a (nI (kSel a (xs (i + 1))))) hD hS hA [27, 28, 29, 30, 31, 32, 33, 34, 35, 36, 37, 38, 39, 40, 41, 42, 43, 44, 45, 46, 47, 48] rfl
  have hKc := hK.sub (tys' := [(cI, .int), (cF, .float), (cZ, .boolean)]) [0, 1, 3] rfl
  refine va_calli (va_runV (As := []) (rest := []) ⟨hx, hb, hml, hown, hts⟩ (c_X5_thrown l dC dI cI cF cZ h1 q2 H.size a (nI (kSel a (xs (i + 1)))) hB1) (cwV 0 hts gL_law_X5_thrown rfl rfl rfl (by decide +kernel) ⟨Nat.le_of_ble_eq_true rfl, Nat.le_of_ble_eq_true rfl⟩) ⟨pcW_blind, va_recv hKc hPc (ci := 5) (q0 := 0) rfl rfl, fun U hU hW => pcW_pre hPc hDc hKc hU hW⟩ rfl rfl hl.1 rfl (lv_room (Nat.le_of_ble_eq_true rfl)) dL_law_1100 ⟨(by show _ + 0 ≤ 601024; omega), (by show _ + 0 ≤ 7293034; omega)⟩) hS (fun q _ h => hFc q h) hFc (fun r u t H1 locs ht hvm hw hB1 hz1 hk1 hS => ?_)
  obtain ⟨hPy, hKy, hDy⟩ := hB1
  rw [ht] at hPy
  obtain ⟨hP, hD⟩ := va_join (wr := WL cI cF cL h0 qy a jcy jsy jvy ky (capOf (nn (a 0 4))) qo fu) (w1 := WM cI cF cZ h1 q2 a (nI (kSel a (xs (i + 1))))) hP hD [27, 28, 29, 30, 31, 32, 33, 34, 35, 36, 37, 38, 39, 40, 41, 42, 43, 44, 45, 46, 47, 48] [0, 1, 2, 3, 4, 5, 6, 7, 8, 9, 10, 11, 12, 13, 14, 15, 16, 17, 18, 19, 20, 21, 22, 23, 24, 25, 26, 49] rfl rfl (by decide) (by decide) hk1 hFc hPy hDy
  have hP := hP.sub (ws' := WA cI cF cL cZ h0 qy a jcy jsy jvy ky (capOf (nn (a 0 4))) h1 q2 a (nI (kSel a (xs (i + 1)))) qo fu) [0, 1, 2, 3, 4, 5, 6, 7, 8, 9, 10, 11, 12, 13, 14, 15, 16, 17, 18, 19, 20, 21, 22, 23, 24, 25, 26, 28, 29, 30, 31, 32, 33, 34, 35, 36, 37, 38, 39, 40, 41, 42, 43, 44, 45, 46, 47, 48, 49, 27] rfl
  have hD := hD.sub (ws' := WA cI cF cL cZ h0 qy a jcy jsy jvy ky (capOf (nn (a 0 4))) h1 q2 a (nI (kSel a (xs (i + 1)))) qo fu) [0, 1, 2, 3, 4, 5, 6, 7, 8, 9, 10, 11, 12, 13, 14, 15, 16, 17, 18, 19, 20, 21, 22, 23, 24, 25, 26, 28, 29, 30, 31, 32, 33, 34, 35, 36, 37, 38, 39, 40, 41, 42, 43, 44, 45, 46, 47, 48, 49, 27] (by decide) rfl
  generalize H1 = H at hP hS ⊢
  refine y_topi (y := nI (kSel a (xs (i + 1)))) hw ?_
  refine lv_iload hx hb dL_law_1103 (lv_at hl 1 rfl) ?_
  refine lv_icmp_eq (tgt := 1110) hx hb dL_law_1105 (by decide) (fun c_1 => ?_) (fun c_1 => ?_)
  · refine lv_iload hx hb dL_law_1110 (lv_at hl 1 rfl) ?_
    refine lv_if_ne (tgt := 1127) hx hb dL_law_1112 (by decide) (fun c_2 => ?_) (fun c_2 => ?_)
    · refine lv_goto (tgt := 1294) hx hb dL_law_1127 (by decide) ?_
      refine W.widen (k := cells + 1026) (n := slots + 6156) (by omega) (by omega) ?_
      exact K _ qy jcy jsy jvy ky _ _ _ _ _ hI1 hCy hP hD hS (lv_sub hl [2, 3, 4, 5, 6] rfl)
    · have hK0 : kSel a (xs (i + 1)) = 0 := by
        rcases kSel_r a (xs (i + 1)) with h9 | h9 <;> first | exact h9 | (rw [h9] at c_2; exact absurd c_2 (by decide))
      refine lv_aload_n hx hb dL_law_1115 rfl (lv_at hl 3 rfl) ?_
      refine lv_iconst (v := 0) hx hb dL_law_1116 (by decide) ?_
      refine y_lld hx hb hK hP 49 2 rfl rfl dL_law_1117 ?_
      refine lv_iload hx hb dL_law_1118 (lv_at hl 0 rfl) ?_
      refine lv_i2l (v := (rv).toInt64) hx hb dL_law_1120 rfl ?_
      refine y_lcmp hx hb (by rw [hwL.2 hK0, hwR hK0]) dL_law_1121 ?_
      refine lv_if_eq (tgt := 1127) hx hb dL_law_1122 (by decide) (fun c_3 => ?_) (fun c_3 => ?_)
      · refine lv_goto (tgt := 1294) hx hb dL_law_1127 (by decide) ?_
        refine W.widen (k := cells + 1026) (n := slots + 6156) (by omega) (by omega) ?_
        exact K _ qy jcy jsy jvy ky _ _ _ _ _ hI1 hCy hP hD hS (lv_sub hl [2, 3, 4, 5, 6] rfl)
      · exact absurd rfl c_3
  · exact absurd rfl c_1
set_option maxHeartbeats 4000000 in
set_option maxRecDepth 100000 in
theorem lc_reserve {p : Program} {l : Launch} {e : Env} {s : State} {m : MethodId} {below : List Frame} {meth : Method} {c : Code} {Q : State → Prop} {b L i n : Nat} {xs : Nat → Int32} {dC : Nat → ClassId} {dI : Nat → Nat → Nat} {cI cF cL cZ : ClassId} {A : Nat → Prop} (hst : l.stackTraces = false) (hx : p.tables.exec = Jvm.exec) (hb : c.code = cL_law) (hml : c.maxLocals = 7) (hown : s.vm.findClass RL = some m.cls) (hts : ∀ w ∈ wsL_law, w.before #[Value.ref b] s = true) (hX : va_X b L xs s s.heap) (hbl : b < s.heap.size) (hbA : ¬ A b) (hA : ∀ q : Nat, s.heap.size ≤ q → A q) (hK : va_K (dC, dI) vwCl [(cI, .int), (cF, .float), (cL, .long), (cZ, .boolean)] s) (hV : okV A s) (hN : okN3 s) {a : yA} (hI : okA a n) (hn : n < 512) (hi : i + 3 < L) (hL : L ≤ 2048) {h0 h1 qo : Nat} {q q2 : Nat → Nat} {jc js jv : Nat → Int32} {k : Nat} {th : Int32} {fo : Nat → Int64} {H : Heap} {locs : List Loc} {cells slots : Nat} {ls : Array Slot} (hC : okC a jc js jv k) (hP : va_P (dC, dI) vwCl (WA cI cF cL cZ h0 q a jc js jv k (capOf (nn (a 0 4))) h1 q2 a th qo fo) H) (hD : va_D A (WA cI cF cL cZ h0 q a jc js jv k (capOf (nn (a 0 4))) h1 q2 a th qo fo)) (hS : va_S A s.heap H locs) (hl : lv_has ls 7 [(4, .int (nI i)), (3, .ref qo), (2, .ref h1), (1, .ref h0), (0, .ref b)]) (hc : cells ≤ 100 + 1026 * n) (hs : slots ≤ 9000 + 6156 * n) (K : ∀ (a1 : yA) (q1 : Nat → Nat) (jc1 js1 jv1 : Nat → Int32) (k1 : Nat) (th1 : Int32) (fo1 : Nat → Int64) (H1 : Heap) (locs1 : List Loc) (ls1 : Array Slot), okA a1 (n + 1) → okC a1 jc1 js1 jv1 k1 → va_P (dC, dI) vwCl (WA cI cF cL cZ h0 q1 a1 jc1 js1 jv1 k1 (capOf (nn (a1 0 4))) h1 q2 a1 th1 qo fo1) H1 → va_D A (WA cI cF cL cZ h0 q1 a1 jc1 js1 jv1 k1 (capOf (nn (a1 0 4))) h1 q2 a1 th1 qo fo1) → va_S A s.heap H1 locs1 → lv_has ls1 7 [(4, .int (nI i)), (3, .ref qo), (2, .ref h1), (1, .ref h0), (0, .ref b)] → W p l e room_1 s m #[Value.ref b] below meth c H1 locs1 (cells + 1026) (slots + 6156) Q (F0 m 1294 ls1 [])) : W p l e room_1 s m #[Value.ref b] below meth c H locs cells slots Q (F0 m 1130 ls []) := by
  have hB := okA_B hI
  refine lv_aload_n hx hb dL_law_1130 rfl (lv_at hl 3 rfl) ?_
  refine lv_aload_n hx hb dL_law_1131 rfl (lv_at hl 4 rfl) ?_
  refine lv_iload hx hb dL_law_1132 (lv_at hl 0 rfl) ?_
  refine lv_iconst (v := 1) hx hb dL_law_1134 (by decide) ?_
  refine lv_iadd hx hb dL_law_1135 ?_
  refine y_topi (y := nI (i + 1)) (by first | exact nI_1 i | exact nI_add i 1) ?_
  refine va_sld hx hb hX hbl hbA hS (vp_in_nI (by omega) (by omega)) dL_law_1136 ?_
  refine y_topi (y := xs (i + 1)) (by rw [nI_clamp (by omega)]) ?_
  refine lv_aload_n hx hb dL_law_1137 rfl (lv_at hl 1 rfl) ?_
  have hPc := hP.sub (ws' := WL cI cF cL h0 q a jc js jv k (capOf (nn (a 0 4))) qo fo) [0, 1, 2, 3, 4, 5, 6, 7, 8, 9, 10, 11, 12, 13, 14, 15, 16, 17, 18, 19, 20, 21, 22, 23, 24, 25, 26, 49] rfl
  have hDc := hD.sub (ws' := WL cI cF cL h0 q a jc js jv k (capOf (nn (a 0 4))) qo fo) [0, 1, 2, 3, 4, 5, 6, 7, 8, 9, 10, 11, 12, 13, 14, 15, 16, 17, 18, 19, 20, 21, 22, 23, 24, 25, 26, 49] (by decide) rfl
  have hFc := va_free (wc := WL cI cF cL h0 q a jc js jv k (capOf (nn (a 0 4))) qo fo) hD hS hA [0, 1, 2, 3, 4, 5, 6, 7, 8, 9, 10, 11, 12, 13, 14, 15, 16, 17, 18, 19, 20, 21, 22, 23, 24, 25, 26, 49] rfl
  have hKc := hK.sub (tys' := [(cI, .int), (cF, .float), (cL, .long)]) [0, 1, 2] rfl
  refine va_calli (vx_runSW (As := [.ref h0, .int (xs (i + 1)), .ref qo]) (rest := []) ⟨hx, hb, hml, hown, hts⟩ (c_L_reserve l dC dI cI cF cL h0 qo q H.size a jc js jv k fo hst hC hB (xs (i + 1))) (vx_cwSW 3 hts gL_law_L_reserve rfl rfl rfl (by decide +kernel) ⟨Nat.le_of_ble_eq_true rfl, Nat.le_of_ble_eq_true rfl⟩) ⟨pcH_blind, fun U hU hW => pcH_pre hPc hDc hKc hV hN hS hFc hU hW⟩ rfl rfl hl.1 rfl (lv_room (Nat.le_of_ble_eq_true rfl)) dL_law_1138 ⟨(by show cells + (1) ≤ 601024; omega), (by show slots + (6) ≤ 7293034; omega)⟩) hS (fun q _ h => hFc q h) hFc (fun r fu t H1 locs ht hvm hw hB1 hz1 hk1 hS => ?_)
  obtain ⟨qy, jcy, jsy, jvy, ky, hCy, hPy, hKy, hDy⟩ := hB1
  rw [ht] at hPy
  have hwL := hw
  obtain ⟨hP, hD⟩ := va_join (wr := (WM cI cF cZ h1 q2 a th)) (w1 := WL cI cF cL h0 qy (if kSel a (xs (i + 1)) = 0 then a else a) jcy jsy jvy ky (capOf (nn ((if kSel a (xs (i + 1)) = 0 then a else a) 0 4))) qo fu) hP hD [0, 1, 2, 3, 4, 5, 6, 7, 8, 9, 10, 11, 12, 13, 14, 15, 16, 17, 18, 19, 20, 21, 22, 23, 24, 25, 26, 49] [27, 28, 29, 30, 31, 32, 33, 34, 35, 36, 37, 38, 39, 40, 41, 42, 43, 44, 45, 46, 47, 48] rfl rfl (by decide) (by decide) hk1 hFc hPy hDy
  have hP := hP.sub (ws' := WA cI cF cL cZ h0 qy (if kSel a (xs (i + 1)) = 0 then a else a) jcy jsy jvy ky (capOf (nn ((if kSel a (xs (i + 1)) = 0 then a else a) 0 4))) h1 q2 a th qo fu) [22, 23, 24, 25, 26, 27, 28, 29, 30, 31, 32, 33, 34, 35, 36, 37, 38, 39, 40, 41, 42, 43, 44, 45, 46, 47, 48, 0, 1, 2, 3, 4, 5, 6, 7, 8, 9, 10, 11, 12, 13, 14, 15, 16, 17, 18, 19, 20, 21, 49] rfl
  have hD := hD.sub (ws' := WA cI cF cL cZ h0 qy (if kSel a (xs (i + 1)) = 0 then a else a) jcy jsy jvy ky (capOf (nn ((if kSel a (xs (i + 1)) = 0 then a else a) 0 4))) h1 q2 a th qo fu) [22, 23, 24, 25, 26, 27, 28, 29, 30, 31, 32, 33, 34, 35, 36, 37, 38, 39, 40, 41, 42, 43, 44, 45, 46, 47, 48, 0, 1, 2, 3, 4, 5, 6, 7, 8, 9, 10, 11, 12, 13, 14, 15, 16, 17, 18, 19, 20, 21, 49] (by decide) rfl
  generalize H1 = H at hP hS ⊢
  refine y_topi (y := nI (kSel a (xs (i + 1)))) hwL.1 ?_
  have hI1 : okA (if kSel a (xs (i + 1)) = 0 then a else a) (n + 1) := by
    split
    · next h9 => exact okA_up hI hn
    · exact okA_up hI hn
  have hB1 := okA_B hI1
  refine lv_istore (lv' := [(5, .int (nI (kSel a (xs (i + 1))))), (4, .int (nI i)), (3, .ref qo), (2, .ref h1), (1, .ref h0), (0, .ref b)]) hx hb dL_law_1141 hl (by decide) rfl (fun ls hl => ?_)
  refine lv_aload_n hx hb dL_law_1143 rfl (lv_at hl 3 rfl) ?_
  refine lv_aload_n hx hb dL_law_1144 rfl (lv_at hl 5 rfl) ?_
  refine lv_iload hx hb dL_law_1145 (lv_at hl 1 rfl) ?_
  refine lv_iconst (v := 1) hx hb dL_law_1147 (by decide) ?_
  refine lv_iadd hx hb dL_law_1148 ?_
  refine y_topi (y := nI (i + 1)) (by first | exact nI_1 i | exact nI_add i 1) ?_
  refine va_sld hx hb hX hbl hbA hS (vp_in_nI (by omega) (by omega)) dL_law_1149 ?_
  refine y_topi (y := xs (i + 1)) (by rw [nI_clamp (by omega)]) ?_
  have hPc := hP.sub (ws' := WM cI cF cZ h1 q2 a th) [27, 28, 29, 30, 31, 32, 33, 34, 35, 36, 37, 38, 39, 40, 41, 42, 43, 44, 45, 46, 47, 48] rfl
  have hDc := hD.sub (ws' := WM cI cF cZ h1 q2 a th) [27, 28, 29, 30, 31, 32, 33, 34, 35, 36, 37, 38, 39, 40, 41, 42, 43, 44, 45, 46, 47, 48] (by decide) rfl
  have hFc := va_free (wc := WM cI cF cZ h1 q2 a th) hD hS hA [27, 28, 29, 30, 31, 32, 33, 34, 35, 36, 37, 38, 39, 40, 41, 42, 43, 44, 45, 46, 47, 48] rfl
  have hKc := hK.sub (tys' := [(cI, .int), (cF, .float), (cZ, .boolean)]) [0, 1, 3] rfl
  refine va_calli (va_runV (As := [.int (xs (i + 1))]) (rest := []) ⟨hx, hb, hml, hown, hts⟩ (c_X5_reserve l dC dI cI cF cZ h1 q2 H.size a th hB (xs (i + 1))) (cwV 1 hts gL_law_X5_reserve rfl rfl rfl (by decide +kernel) ⟨Nat.le_of_ble_eq_true rfl, Nat.le_of_ble_eq_true rfl⟩) ⟨pcW_blind, va_recv hKc hPc (ci := 5) (q0 := 0) rfl rfl, fun U hU hW => pcW_pre hPc hDc hKc hU hW⟩ rfl rfl hl.1 rfl (lv_room (Nat.le_of_ble_eq_true rfl)) dL_law_1150 ⟨(by show _ + 0 ≤ 601024; omega), (by show _ + 0 ≤ 7293034; omega)⟩) hS (fun q _ h => hFc q h) hFc (fun r u t H1 locs ht hvm hw hB1 hz1 hk1 hS => ?_)
  obtain ⟨hPy, hKy, hDy⟩ := hB1
  rw [ht] at hPy
  obtain ⟨hP, hD⟩ := va_join (wr := WL cI cF cL h0 qy (if kSel a (xs (i + 1)) = 0 then a else a) jcy jsy jvy ky (capOf (nn ((if kSel a (xs (i + 1)) = 0 then a else a) 0 4))) qo fu) (w1 := WM cI cF cZ h1 q2 a (nI (kSel a (xs (i + 1))))) hP hD [27, 28, 29, 30, 31, 32, 33, 34, 35, 36, 37, 38, 39, 40, 41, 42, 43, 44, 45, 46, 47, 48] [0, 1, 2, 3, 4, 5, 6, 7, 8, 9, 10, 11, 12, 13, 14, 15, 16, 17, 18, 19, 20, 21, 22, 23, 24, 25, 26, 49] rfl rfl (by decide) (by decide) hk1 hFc hPy hDy
  have hP := hP.sub (ws' := WA cI cF cL cZ h0 qy (if kSel a (xs (i + 1)) = 0 then a else a) jcy jsy jvy ky (capOf (nn ((if kSel a (xs (i + 1)) = 0 then a else a) 0 4))) h1 q2 a (nI (kSel a (xs (i + 1)))) qo fu) [0, 1, 2, 3, 4, 5, 6, 7, 8, 9, 10, 11, 12, 13, 14, 15, 16, 17, 18, 19, 20, 21, 22, 23, 24, 25, 26, 28, 29, 30, 31, 32, 33, 34, 35, 36, 37, 38, 39, 40, 41, 42, 43, 44, 45, 46, 47, 48, 49, 27] rfl
  have hD := hD.sub (ws' := WA cI cF cL cZ h0 qy (if kSel a (xs (i + 1)) = 0 then a else a) jcy jsy jvy ky (capOf (nn ((if kSel a (xs (i + 1)) = 0 then a else a) 0 4))) h1 q2 a (nI (kSel a (xs (i + 1)))) qo fu) [0, 1, 2, 3, 4, 5, 6, 7, 8, 9, 10, 11, 12, 13, 14, 15, 16, 17, 18, 19, 20, 21, 22, 23, 24, 25, 26, 28, 29, 30, 31, 32, 33, 34, 35, 36, 37, 38, 39, 40, 41, 42, 43, 44, 45, 46, 47, 48, 49, 27] (by decide) rfl
  generalize H1 = H at hP hS ⊢
  have hwR := hw
  have e9 : (if kSel a (xs (i + 1)) = 0 then a else a) = a := by split <;> rfl
  rw [e9] at hP hD hCy hI1 hB1
  obtain ⟨rv, erv⟩ : ∃ z, z = r := ⟨_, rfl⟩
  rw [← erv] at hwR ⊢
  refine lv_istore (lv' := [(6, .int rv), (5, .int (nI (kSel a (xs (i + 1))))), (4, .int (nI i)), (3, .ref qo), (2, .ref h1), (1, .ref h0), (0, .ref b)]) hx hb dL_law_1153 hl (by decide) rfl (fun ls hl => ?_)
  refine lv_aload_n hx hb dL_law_1155 rfl (lv_at hl 4 rfl) ?_
  have hPc := hP.sub (ws' := WM cI cF cZ h1 q2 a (nI (kSel a (xs (i + 1))))) [27, 28, 29, 30, 31, 32, 33, 34, 35, 36, 37, 38, 39, 40, 41, 42, 43, 44, 45, 46, 47, 48] rfl
  have hDc := hD.sub (ws' := WM cI cF cZ h1 q2 a (nI (kSel a (xs (i + 1))))) [27, 28, 29, 30, 31, 32, 33, 34, 35, 36, 37, 38, 39, 40, 41, 42, 43, 44, 45, 46, 47, 48] (by decide) rfl
  have hFc := va_free (wc := WM cI cF cZ h1 q2 a (nI (kSel a (xs (i + 1))))) hD hS hA [27, 28, 29, 30, 31, 32, 33, 34, 35, 36, 37, 38, 39, 40, 41, 42, 43, 44, 45, 46, 47, 48] rfl
  have hKc := hK.sub (tys' := [(cI, .int), (cF, .float), (cZ, .boolean)]) [0, 1, 3] rfl
  refine va_calli (va_runV (As := []) (rest := []) ⟨hx, hb, hml, hown, hts⟩ (c_X5_thrown l dC dI cI cF cZ h1 q2 H.size a (nI (kSel a (xs (i + 1)))) hB1) (cwV 0 hts gL_law_X5_thrown rfl rfl rfl (by decide +kernel) ⟨Nat.le_of_ble_eq_true rfl, Nat.le_of_ble_eq_true rfl⟩) ⟨pcW_blind, va_recv hKc hPc (ci := 5) (q0 := 0) rfl rfl, fun U hU hW => pcW_pre hPc hDc hKc hU hW⟩ rfl rfl hl.1 rfl (lv_room (Nat.le_of_ble_eq_true rfl)) dL_law_1156 ⟨(by show _ + 0 ≤ 601024; omega), (by show _ + 0 ≤ 7293034; omega)⟩) hS (fun q _ h => hFc q h) hFc (fun r u t H1 locs ht hvm hw hB1 hz1 hk1 hS => ?_)
  obtain ⟨hPy, hKy, hDy⟩ := hB1
  rw [ht] at hPy
  obtain ⟨hP, hD⟩ := va_join (wr := WL cI cF cL h0 qy a jcy jsy jvy ky (capOf (nn (a 0 4))) qo fu) (w1 := WM cI cF cZ h1 q2 a (nI (kSel a (xs (i + 1))))) hP hD [27, 28, 29, 30, 31, 32, 33, 34, 35, 36, 37, 38, 39, 40, 41, 42, 43, 44, 45, 46, 47, 48] [0, 1, 2, 3, 4, 5, 6, 7, 8, 9, 10, 11, 12, 13, 14, 15, 16, 17, 18, 19, 20, 21, 22, 23, 24, 25, 26, 49] rfl rfl (by decide) (by decide) hk1 hFc hPy hDy
  have hP := hP.sub (ws' := WA cI cF cL cZ h0 qy a jcy jsy jvy ky (capOf (nn (a 0 4))) h1 q2 a (nI (kSel a (xs (i + 1)))) qo fu) [0, 1, 2, 3, 4, 5, 6, 7, 8, 9, 10, 11, 12, 13, 14, 15, 16, 17, 18, 19, 20, 21, 22, 23, 24, 25, 26, 28, 29, 30, 31, 32, 33, 34, 35, 36, 37, 38, 39, 40, 41, 42, 43, 44, 45, 46, 47, 48, 49, 27] rfl
  have hD := hD.sub (ws' := WA cI cF cL cZ h0 qy a jcy jsy jvy ky (capOf (nn (a 0 4))) h1 q2 a (nI (kSel a (xs (i + 1)))) qo fu) [0, 1, 2, 3, 4, 5, 6, 7, 8, 9, 10, 11, 12, 13, 14, 15, 16, 17, 18, 19, 20, 21, 22, 23, 24, 25, 26, 28, 29, 30, 31, 32, 33, 34, 35, 36, 37, 38, 39, 40, 41, 42, 43, 44, 45, 46, 47, 48, 49, 27] (by decide) rfl
  generalize H1 = H at hP hS ⊢
  refine y_topi (y := nI (kSel a (xs (i + 1)))) hw ?_
  refine lv_iload hx hb dL_law_1159 (lv_at hl 1 rfl) ?_
  refine lv_icmp_eq (tgt := 1166) hx hb dL_law_1161 (by decide) (fun c_1 => ?_) (fun c_1 => ?_)
  · refine lv_iload hx hb dL_law_1166 (lv_at hl 1 rfl) ?_
    refine lv_if_ne (tgt := 1183) hx hb dL_law_1168 (by decide) (fun c_2 => ?_) (fun c_2 => ?_)
    · refine lv_goto (tgt := 1294) hx hb dL_law_1183 (by decide) ?_
      refine W.widen (k := cells + 1026) (n := slots + 6156) (by omega) (by omega) ?_
      exact K _ qy jcy jsy jvy ky _ _ _ _ _ hI1 hCy hP hD hS (lv_sub hl [2, 3, 4, 5, 6] rfl)
    · have hK0 : kSel a (xs (i + 1)) = 0 := by
        rcases kSel_r a (xs (i + 1)) with h9 | h9 <;> first | exact h9 | (rw [h9] at c_2; exact absurd c_2 (by decide))
      refine lv_aload_n hx hb dL_law_1171 rfl (lv_at hl 3 rfl) ?_
      refine lv_iconst (v := 0) hx hb dL_law_1172 (by decide) ?_
      refine y_lld hx hb hK hP 49 2 rfl rfl dL_law_1173 ?_
      refine lv_iload hx hb dL_law_1174 (lv_at hl 0 rfl) ?_
      refine lv_i2l (v := (rv).toInt64) hx hb dL_law_1176 rfl ?_
      refine y_lcmp hx hb (by rw [hwL.2 hK0, hwR hK0]) dL_law_1177 ?_
      refine lv_if_eq (tgt := 1183) hx hb dL_law_1178 (by decide) (fun c_3 => ?_) (fun c_3 => ?_)
      · refine lv_goto (tgt := 1294) hx hb dL_law_1183 (by decide) ?_
        refine W.widen (k := cells + 1026) (n := slots + 6156) (by omega) (by omega) ?_
        exact K _ qy jcy jsy jvy ky _ _ _ _ _ hI1 hCy hP hD hS (lv_sub hl [2, 3, 4, 5, 6] rfl)
      · exact absurd rfl c_3
  · exact absurd rfl c_1
set_option maxHeartbeats 4000000 in
set_option maxRecDepth 100000 in
theorem lc_paidTo {p : Program} {l : Launch} {e : Env} {s : State} {m : MethodId} {below : List Frame} {meth : Method} {c : Code} {Q : State → Prop} {b L i n : Nat} {xs : Nat → Int32} {dC : Nat → ClassId} {dI : Nat → Nat → Nat} {cI cF cL cZ : ClassId} {A : Nat → Prop} (hst : l.stackTraces = false) (hx : p.tables.exec = Jvm.exec) (hb : c.code = cL_law) (hml : c.maxLocals = 7) (hown : s.vm.findClass RL = some m.cls) (hts : ∀ w ∈ wsL_law, w.before #[Value.ref b] s = true) (hX : va_X b L xs s s.heap) (hbl : b < s.heap.size) (hbA : ¬ A b) (hA : ∀ q : Nat, s.heap.size ≤ q → A q) (hK : va_K (dC, dI) vwCl [(cI, .int), (cF, .float), (cL, .long), (cZ, .boolean)] s) (hV : okV A s) (hN : okN3 s) {a : yA} (hI : okA a n) (hn : n < 512) (hi : i + 3 < L) (hL : L ≤ 2048) {h0 h1 qo : Nat} {q q2 : Nat → Nat} {jc js jv : Nat → Int32} {k : Nat} {th : Int32} {fo : Nat → Int64} {H : Heap} {locs : List Loc} {cells slots : Nat} {ls : Array Slot} (hC : okC a jc js jv k) (hP : va_P (dC, dI) vwCl (WA cI cF cL cZ h0 q a jc js jv k (capOf (nn (a 0 4))) h1 q2 a th qo fo) H) (hD : va_D A (WA cI cF cL cZ h0 q a jc js jv k (capOf (nn (a 0 4))) h1 q2 a th qo fo)) (hS : va_S A s.heap H locs) (hl : lv_has ls 7 [(4, .int (nI i)), (3, .ref qo), (2, .ref h1), (1, .ref h0), (0, .ref b)]) (hc : cells ≤ 100 + 1026 * n) (hs : slots ≤ 9000 + 6156 * n) (K : ∀ (a1 : yA) (q1 : Nat → Nat) (jc1 js1 jv1 : Nat → Int32) (k1 : Nat) (th1 : Int32) (fo1 : Nat → Int64) (H1 : Heap) (locs1 : List Loc) (ls1 : Array Slot), okA a1 (n + 1) → okC a1 jc1 js1 jv1 k1 → va_P (dC, dI) vwCl (WA cI cF cL cZ h0 q1 a1 jc1 js1 jv1 k1 (capOf (nn (a1 0 4))) h1 q2 a1 th1 qo fo1) H1 → va_D A (WA cI cF cL cZ h0 q1 a1 jc1 js1 jv1 k1 (capOf (nn (a1 0 4))) h1 q2 a1 th1 qo fo1) → va_S A s.heap H1 locs1 → lv_has ls1 7 [(4, .int (nI i)), (3, .ref qo), (2, .ref h1), (1, .ref h0), (0, .ref b)] → W p l e room_1 s m #[Value.ref b] below meth c H1 locs1 (cells + 1026) (slots + 6156) Q (F0 m 1294 ls1 [])) : W p l e room_1 s m #[Value.ref b] below meth c H locs cells slots Q (F0 m 1186 ls []) := by
  have hB := okA_B hI
  refine lv_aload_n hx hb dL_law_1186 rfl (lv_at hl 3 rfl) ?_
  refine lv_aload_n hx hb dL_law_1187 rfl (lv_at hl 4 rfl) ?_
  refine lv_iload hx hb dL_law_1188 (lv_at hl 0 rfl) ?_
  refine lv_iconst (v := 1) hx hb dL_law_1190 (by decide) ?_
  refine lv_iadd hx hb dL_law_1191 ?_
  refine y_topi (y := nI (i + 1)) (by first | exact nI_1 i | exact nI_add i 1) ?_
  refine va_sld hx hb hX hbl hbA hS (vp_in_nI (by omega) (by omega)) dL_law_1192 ?_
  refine y_topi (y := xs (i + 1)) (by rw [nI_clamp (by omega)]) ?_
  refine lv_aload_n hx hb dL_law_1193 rfl (lv_at hl 1 rfl) ?_
  have hPc := hP.sub (ws' := WL cI cF cL h0 q a jc js jv k (capOf (nn (a 0 4))) qo fo) [0, 1, 2, 3, 4, 5, 6, 7, 8, 9, 10, 11, 12, 13, 14, 15, 16, 17, 18, 19, 20, 21, 22, 23, 24, 25, 26, 49] rfl
  have hDc := hD.sub (ws' := WL cI cF cL h0 q a jc js jv k (capOf (nn (a 0 4))) qo fo) [0, 1, 2, 3, 4, 5, 6, 7, 8, 9, 10, 11, 12, 13, 14, 15, 16, 17, 18, 19, 20, 21, 22, 23, 24, 25, 26, 49] (by decide) rfl
  have hFc := va_free (wc := WL cI cF cL h0 q a jc js jv k (capOf (nn (a 0 4))) qo fo) hD hS hA [0, 1, 2, 3, 4, 5, 6, 7, 8, 9, 10, 11, 12, 13, 14, 15, 16, 17, 18, 19, 20, 21, 22, 23, 24, 25, 26, 49] rfl
  have hKc := hK.sub (tys' := [(cI, .int), (cF, .float), (cL, .long)]) [0, 1, 2] rfl
  refine va_calli (vx_runSW (As := [.ref h0, .int (xs (i + 1)), .ref qo]) (rest := []) ⟨hx, hb, hml, hown, hts⟩ (c_L_paidTo l dC dI cI cF cL h0 qo q H.size a jc js jv k fo hst hC hB (xs (i + 1))) (vx_cwSW 3 hts gL_law_L_paidTo rfl rfl rfl (by decide +kernel) ⟨Nat.le_of_ble_eq_true rfl, Nat.le_of_ble_eq_true rfl⟩) ⟨pcH_blind, fun U hU hW => pcH_pre hPc hDc hKc hV hN hS hFc hU hW⟩ rfl rfl hl.1 rfl (lv_room (Nat.le_of_ble_eq_true rfl)) dL_law_1194 ⟨(by show cells + (1) ≤ 601024; omega), (by show slots + (6) ≤ 7293034; omega)⟩) hS (fun q _ h => hFc q h) hFc (fun r fu t H1 locs ht hvm hw hB1 hz1 hk1 hS => ?_)
  obtain ⟨qy, jcy, jsy, jvy, ky, hCy, hPy, hKy, hDy⟩ := hB1
  rw [ht] at hPy
  have hwL := hw
  obtain ⟨hP, hD⟩ := va_join (wr := (WM cI cF cZ h1 q2 a th)) (w1 := WL cI cF cL h0 qy (if kSel a (xs (i + 1)) = 0 then a else a) jcy jsy jvy ky (capOf (nn ((if kSel a (xs (i + 1)) = 0 then a else a) 0 4))) qo fu) hP hD [0, 1, 2, 3, 4, 5, 6, 7, 8, 9, 10, 11, 12, 13, 14, 15, 16, 17, 18, 19, 20, 21, 22, 23, 24, 25, 26, 49] [27, 28, 29, 30, 31, 32, 33, 34, 35, 36, 37, 38, 39, 40, 41, 42, 43, 44, 45, 46, 47, 48] rfl rfl (by decide) (by decide) hk1 hFc hPy hDy
  have hP := hP.sub (ws' := WA cI cF cL cZ h0 qy (if kSel a (xs (i + 1)) = 0 then a else a) jcy jsy jvy ky (capOf (nn ((if kSel a (xs (i + 1)) = 0 then a else a) 0 4))) h1 q2 a th qo fu) [22, 23, 24, 25, 26, 27, 28, 29, 30, 31, 32, 33, 34, 35, 36, 37, 38, 39, 40, 41, 42, 43, 44, 45, 46, 47, 48, 0, 1, 2, 3, 4, 5, 6, 7, 8, 9, 10, 11, 12, 13, 14, 15, 16, 17, 18, 19, 20, 21, 49] rfl
  have hD := hD.sub (ws' := WA cI cF cL cZ h0 qy (if kSel a (xs (i + 1)) = 0 then a else a) jcy jsy jvy ky (capOf (nn ((if kSel a (xs (i + 1)) = 0 then a else a) 0 4))) h1 q2 a th qo fu) [22, 23, 24, 25, 26, 27, 28, 29, 30, 31, 32, 33, 34, 35, 36, 37, 38, 39, 40, 41, 42, 43, 44, 45, 46, 47, 48, 0, 1, 2, 3, 4, 5, 6, 7, 8, 9, 10, 11, 12, 13, 14, 15, 16, 17, 18, 19, 20, 21, 49] (by decide) rfl
  generalize H1 = H at hP hS ⊢
  refine y_topi (y := nI (kSel a (xs (i + 1)))) hwL.1 ?_
  have hI1 : okA (if kSel a (xs (i + 1)) = 0 then a else a) (n + 1) := by
    split
    · next h9 => exact okA_up hI hn
    · exact okA_up hI hn
  have hB1 := okA_B hI1
  refine lv_istore (lv' := [(5, .int (nI (kSel a (xs (i + 1))))), (4, .int (nI i)), (3, .ref qo), (2, .ref h1), (1, .ref h0), (0, .ref b)]) hx hb dL_law_1197 hl (by decide) rfl (fun ls hl => ?_)
  refine lv_aload_n hx hb dL_law_1199 rfl (lv_at hl 3 rfl) ?_
  refine lv_aload_n hx hb dL_law_1200 rfl (lv_at hl 5 rfl) ?_
  refine lv_iload hx hb dL_law_1201 (lv_at hl 1 rfl) ?_
  refine lv_iconst (v := 1) hx hb dL_law_1203 (by decide) ?_
  refine lv_iadd hx hb dL_law_1204 ?_
  refine y_topi (y := nI (i + 1)) (by first | exact nI_1 i | exact nI_add i 1) ?_
  refine va_sld hx hb hX hbl hbA hS (vp_in_nI (by omega) (by omega)) dL_law_1205 ?_
  refine y_topi (y := xs (i + 1)) (by rw [nI_clamp (by omega)]) ?_
  have hPc := hP.sub (ws' := WM cI cF cZ h1 q2 a th) [27, 28, 29, 30, 31, 32, 33, 34, 35, 36, 37, 38, 39, 40, 41, 42, 43, 44, 45, 46, 47, 48] rfl
  have hDc := hD.sub (ws' := WM cI cF cZ h1 q2 a th) [27, 28, 29, 30, 31, 32, 33, 34, 35, 36, 37, 38, 39, 40, 41, 42, 43, 44, 45, 46, 47, 48] (by decide) rfl
  have hFc := va_free (wc := WM cI cF cZ h1 q2 a th) hD hS hA [27, 28, 29, 30, 31, 32, 33, 34, 35, 36, 37, 38, 39, 40, 41, 42, 43, 44, 45, 46, 47, 48] rfl
  have hKc := hK.sub (tys' := [(cI, .int), (cF, .float), (cZ, .boolean)]) [0, 1, 3] rfl
  refine va_calli (va_runV (As := [.int (xs (i + 1))]) (rest := []) ⟨hx, hb, hml, hown, hts⟩ (c_X5_paidTo l dC dI cI cF cZ h1 q2 H.size a th hB (xs (i + 1))) (cwV 1 hts gL_law_X5_paidTo rfl rfl rfl (by decide +kernel) ⟨Nat.le_of_ble_eq_true rfl, Nat.le_of_ble_eq_true rfl⟩) ⟨pcW_blind, va_recv hKc hPc (ci := 5) (q0 := 0) rfl rfl, fun U hU hW => pcW_pre hPc hDc hKc hU hW⟩ rfl rfl hl.1 rfl (lv_room (Nat.le_of_ble_eq_true rfl)) dL_law_1206 ⟨(by show _ + 0 ≤ 601024; omega), (by show _ + 0 ≤ 7293034; omega)⟩) hS (fun q _ h => hFc q h) hFc (fun r u t H1 locs ht hvm hw hB1 hz1 hk1 hS => ?_)
  obtain ⟨hPy, hKy, hDy⟩ := hB1
  rw [ht] at hPy
  obtain ⟨hP, hD⟩ := va_join (wr := WL cI cF cL h0 qy (if kSel a (xs (i + 1)) = 0 then a else a) jcy jsy jvy ky (capOf (nn ((if kSel a (xs (i + 1)) = 0 then a else a) 0 4))) qo fu) (w1 := WM cI cF cZ h1 q2 a (nI (kSel a (xs (i + 1))))) hP hD [27, 28, 29, 30, 31, 32, 33, 34, 35, 36, 37, 38, 39, 40, 41, 42, 43, 44, 45, 46, 47, 48] [0, 1, 2, 3, 4, 5, 6, 7, 8, 9, 10, 11, 12, 13, 14, 15, 16, 17, 18, 19, 20, 21, 22, 23, 24, 25, 26, 49] rfl rfl (by decide) (by decide) hk1 hFc hPy hDy
  have hP := hP.sub (ws' := WA cI cF cL cZ h0 qy (if kSel a (xs (i + 1)) = 0 then a else a) jcy jsy jvy ky (capOf (nn ((if kSel a (xs (i + 1)) = 0 then a else a) 0 4))) h1 q2 a (nI (kSel a (xs (i + 1)))) qo fu) [0, 1, 2, 3, 4, 5, 6, 7, 8, 9, 10, 11, 12, 13, 14, 15, 16, 17, 18, 19, 20, 21, 22, 23, 24, 25, 26, 28, 29, 30, 31, 32, 33, 34, 35, 36, 37, 38, 39, 40, 41, 42, 43, 44, 45, 46, 47, 48, 49, 27] rfl
  have hD := hD.sub (ws' := WA cI cF cL cZ h0 qy (if kSel a (xs (i + 1)) = 0 then a else a) jcy jsy jvy ky (capOf (nn ((if kSel a (xs (i + 1)) = 0 then a else a) 0 4))) h1 q2 a (nI (kSel a (xs (i + 1)))) qo fu) [0, 1, 2, 3, 4, 5, 6, 7, 8, 9, 10, 11, 12, 13, 14, 15, 16, 17, 18, 19, 20, 21, 22, 23, 24, 25, 26, 28, 29, 30, 31, 32, 33, 34, 35, 36, 37, 38, 39, 40, 41, 42, 43, 44, 45, 46, 47, 48, 49, 27] (by decide) rfl
  generalize H1 = H at hP hS ⊢
  have hwR := hw
  have e9 : (if kSel a (xs (i + 1)) = 0 then a else a) = a := by split <;> rfl
  rw [e9] at hP hD hCy hI1 hB1
  obtain ⟨rv, erv⟩ : ∃ z, z = r := ⟨_, rfl⟩
  rw [← erv] at hwR ⊢
  refine lv_istore (lv' := [(6, .int rv), (5, .int (nI (kSel a (xs (i + 1))))), (4, .int (nI i)), (3, .ref qo), (2, .ref h1), (1, .ref h0), (0, .ref b)]) hx hb dL_law_1209 hl (by decide) rfl (fun ls hl => ?_)
  refine lv_aload_n hx hb dL_law_1211 rfl (lv_at hl 4 rfl) ?_
  have hPc := hP.sub (ws' := WM cI cF cZ h1 q2 a (nI (kSel a (xs (i + 1))))) [27, 28, 29, 30, 31, 32, 33, 34, 35, 36, 37, 38, 39, 40, 41, 42, 43, 44, 45, 46, 47, 48] rfl
  have hDc := hD.sub (ws' := WM cI cF cZ h1 q2 a (nI (kSel a (xs (i + 1))))) [27, 28, 29, 30, 31, 32, 33, 34, 35, 36, 37, 38, 39, 40, 41, 42, 43, 44, 45, 46, 47, 48] (by decide) rfl
  have hFc := va_free (wc := WM cI cF cZ h1 q2 a (nI (kSel a (xs (i + 1))))) hD hS hA [27, 28, 29, 30, 31, 32, 33, 34, 35, 36, 37, 38, 39, 40, 41, 42, 43, 44, 45, 46, 47, 48] rfl
  have hKc := hK.sub (tys' := [(cI, .int), (cF, .float), (cZ, .boolean)]) [0, 1, 3] rfl
  refine va_calli (va_runV (As := []) (rest := []) ⟨hx, hb, hml, hown, hts⟩ (c_X5_thrown l dC dI cI cF cZ h1 q2 H.size a (nI (kSel a (xs (i + 1)))) hB1) (cwV 0 hts gL_law_X5_thrown rfl rfl rfl (by decide +kernel) ⟨Nat.le_of_ble_eq_true rfl, Nat.le_of_ble_eq_true rfl⟩) ⟨pcW_blind, va_recv hKc hPc (ci := 5) (q0 := 0) rfl rfl, fun U hU hW => pcW_pre hPc hDc hKc hU hW⟩ rfl rfl hl.1 rfl (lv_room (Nat.le_of_ble_eq_true rfl)) dL_law_1212 ⟨(by show _ + 0 ≤ 601024; omega), (by show _ + 0 ≤ 7293034; omega)⟩) hS (fun q _ h => hFc q h) hFc (fun r u t H1 locs ht hvm hw hB1 hz1 hk1 hS => ?_)
  obtain ⟨hPy, hKy, hDy⟩ := hB1
  rw [ht] at hPy
  obtain ⟨hP, hD⟩ := va_join (wr := WL cI cF cL h0 qy a jcy jsy jvy ky (capOf (nn (a 0 4))) qo fu) (w1 := WM cI cF cZ h1 q2 a (nI (kSel a (xs (i + 1))))) hP hD [27, 28, 29, 30, 31, 32, 33, 34, 35, 36, 37, 38, 39, 40, 41, 42, 43, 44, 45, 46, 47, 48] [0, 1, 2, 3, 4, 5, 6, 7, 8, 9, 10, 11, 12, 13, 14, 15, 16, 17, 18, 19, 20, 21, 22, 23, 24, 25, 26, 49] rfl rfl (by decide) (by decide) hk1 hFc hPy hDy
  have hP := hP.sub (ws' := WA cI cF cL cZ h0 qy a jcy jsy jvy ky (capOf (nn (a 0 4))) h1 q2 a (nI (kSel a (xs (i + 1)))) qo fu) [0, 1, 2, 3, 4, 5, 6, 7, 8, 9, 10, 11, 12, 13, 14, 15, 16, 17, 18, 19, 20, 21, 22, 23, 24, 25, 26, 28, 29, 30, 31, 32, 33, 34, 35, 36, 37, 38, 39, 40, 41, 42, 43, 44, 45, 46, 47, 48, 49, 27] rfl
  have hD := hD.sub (ws' := WA cI cF cL cZ h0 qy a jcy jsy jvy ky (capOf (nn (a 0 4))) h1 q2 a (nI (kSel a (xs (i + 1)))) qo fu) [0, 1, 2, 3, 4, 5, 6, 7, 8, 9, 10, 11, 12, 13, 14, 15, 16, 17, 18, 19, 20, 21, 22, 23, 24, 25, 26, 28, 29, 30, 31, 32, 33, 34, 35, 36, 37, 38, 39, 40, 41, 42, 43, 44, 45, 46, 47, 48, 49, 27] (by decide) rfl
  generalize H1 = H at hP hS ⊢
  refine y_topi (y := nI (kSel a (xs (i + 1)))) hw ?_
  refine lv_iload hx hb dL_law_1215 (lv_at hl 1 rfl) ?_
  refine lv_icmp_eq (tgt := 1222) hx hb dL_law_1217 (by decide) (fun c_1 => ?_) (fun c_1 => ?_)
  · refine lv_iload hx hb dL_law_1222 (lv_at hl 1 rfl) ?_
    refine lv_if_ne (tgt := 1239) hx hb dL_law_1224 (by decide) (fun c_2 => ?_) (fun c_2 => ?_)
    · refine lv_goto (tgt := 1294) hx hb dL_law_1239 (by decide) ?_
      refine W.widen (k := cells + 1026) (n := slots + 6156) (by omega) (by omega) ?_
      exact K _ qy jcy jsy jvy ky _ _ _ _ _ hI1 hCy hP hD hS (lv_sub hl [2, 3, 4, 5, 6] rfl)
    · have hK0 : kSel a (xs (i + 1)) = 0 := by
        rcases kSel_r a (xs (i + 1)) with h9 | h9 <;> first | exact h9 | (rw [h9] at c_2; exact absurd c_2 (by decide))
      refine lv_aload_n hx hb dL_law_1227 rfl (lv_at hl 3 rfl) ?_
      refine lv_iconst (v := 0) hx hb dL_law_1228 (by decide) ?_
      refine y_lld hx hb hK hP 49 2 rfl rfl dL_law_1229 ?_
      refine lv_iload hx hb dL_law_1230 (lv_at hl 0 rfl) ?_
      refine lv_i2l (v := (rv).toInt64) hx hb dL_law_1232 rfl ?_
      refine y_lcmp hx hb (by rw [hwL.2 hK0, hwR hK0]) dL_law_1233 ?_
      refine lv_if_eq (tgt := 1239) hx hb dL_law_1234 (by decide) (fun c_3 => ?_) (fun c_3 => ?_)
      · refine lv_goto (tgt := 1294) hx hb dL_law_1239 (by decide) ?_
        refine W.widen (k := cells + 1026) (n := slots + 6156) (by omega) (by omega) ?_
        exact K _ qy jcy jsy jvy ky _ _ _ _ _ hI1 hCy hP hD hS (lv_sub hl [2, 3, 4, 5, 6] rfl)
      · exact absurd rfl c_3
  · exact absurd rfl c_1
